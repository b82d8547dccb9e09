section
/-! The class's sum over a rule. -/
/-- a work that is asked for -/
def wsel (s : Nat → Int32) (t h k : Nat) : Bool := s (124 + 4 * k) == Int32.ofNat h && (!pdn s k && s (124 + 4 * k + 1) == s (10 + 6 * t + 1))
/-- what works there want: the greatest, or all together -/
def wnt (s : Nat → Int32) (t h x : Nat) (g : Bool) : Nat → Nat → Int32 → Int32
  | _, 0, v => v
  | k, n + 1, v => wnt s t h x g (k + 1) n (if wsel s t h k = true then (if g = true then (if v < s (124 + 4 * k + x) then s (124 + 4 * k + x) else v) else v + s (124 + 4 * k + x)) else v)
/-- the words' values -/
def wrd (s : Nat → Int32) (t h : Nat) : Nat → Int32
  | 0 => Int32.ofNat t
  | 1 => s (10 + 6 * t + 1)
  | 2 => s (10 + 6 * t)
  | 3 => s (10 + 6 * t + 3)
  | 4 => Int32.ofNat h
  | 5 => s (10 + 6 * t + 4)
  | 6 => psh s t 1
  | 7 => s (10 + 6 * t + 5)
  | 8 => s 4
  | 9 => wnt s t h 2 true 0 (s 3).toInt.toNat 0
  | 10 => wnt s t h 3 false 0 (s 3).toInt.toNat 0
  | 11 => s (82 + 6 * h + (s (10 + 6 * t + 3)).toInt.toNat)
  | _ => if ptr s h (s (10 + 6 * t + 3)).toInt.toNat = true then 1 else 0
def wrl (s : Nat → Int32) (t h : Nat) : Nat → Int64 := fun i => (wrd s t h i).toInt64
theorem zcni {X k : Int32} {y : Int} (hk : k.toInt = y) : zcmp .ne X k = !decide (X.toInt = y) := by
  rw [zcn]
  congr 1
  by_cases h : X.toInt = y
  · rw [decide_eq_true h, show X = k from Int32.toInt_inj.mp (h.trans hk.symm)]
    exact beq_self_eq_true k
  · rw [decide_eq_false h]
    have : X ≠ k := fun z => h (by rw [z, hk])
    simp [this]

theorem tbu {x : Int32} {d : Nat} (hd : d < 6) : zcmp .eq ((x >>> (Int32.ofNat d &&& 31)) &&& 1) 0 = !tbt x d := by
  have i2 := BitVec.toInt_eq_toNat_cond x.toBitVec
  have j2 : x.toInt = x.toBitVec.toInt := rfl
  have l := x.toBitVec.isLt
  have hx : x.toInt = (x.toBitVec.toNat : Int) ∨ x.toInt = (x.toBitVec.toNat : Int) - 4294967296 := by
    rw [j2, i2]
    split
    · exact Or.inl rfl
    · exact Or.inr rfl
  have key : ∀ y : Int32, zcmp .eq (y &&& 1) 0 = decide (y.toInt % 2 = 0) := fun y => by
    have e : (y &&& 1).toBitVec.toNat = y.toBitVec.toNat % 2 := by
      rw [Int32.toBitVec_and, BitVec.toNat_and]
      exact Nat.and_two_pow_sub_one_eq_mod _ 1
    have k1 := BitVec.toInt_eq_toNat_cond (y &&& 1).toBitVec
    have k2 := BitVec.toInt_eq_toNat_cond y.toBitVec
    have m1 : (y &&& 1).toInt = (y &&& 1).toBitVec.toInt := rfl
    have m2 : y.toInt = y.toBitVec.toInt := rfl
    have l2 := y.toBitVec.isLt
    have e1 : (y &&& 1).toInt = y.toInt % 2 := by
      rw [m1, k1, m2, k2, e]
      split <;> split <;> omega
    rw [zce]
    by_cases z : y.toInt % 2 = 0
    · rw [decide_eq_true z, show (y &&& 1) = 0 from Int32.toInt_inj.mp (by rw [e1, z]; rfl)]
      rfl
    · rw [decide_eq_false z]
      have : (y &&& 1) ≠ 0 := fun q => z (by rw [← e1, q]; rfl)
      simp [this]
  match d, hd with
  | 0, _ =>
    have e : ((Int32.ofNat 0 &&& 31 : Int32)).toBitVec.smod 32 = 0#32 := by decide
    have s1 : (x >>> (Int32.ofNat 0 &&& 31)).toInt = x.toInt / 1 := by
      show ((x >>> (Int32.ofNat 0 &&& 31)).toBitVec).toInt = _
      rw [Int32.toBitVec_shiftRight, e]
      show (x.toBitVec.sshiftRight 0).toInt = _
      rw [BitVec.toInt_sshiftRight, Int.shiftRight_eq_div_pow]
      rfl
    have b : tbt x 0 = decide (x.toBitVec.toNat / 1 % 2 = 1) := Nat.testBit_eq_decide_div_mod_eq
    rw [key, s1, b]
    by_cases z : x.toBitVec.toNat / 1 % 2 = 1
    · rw [decide_eq_true z, decide_eq_false (by omega)]
      rfl
    · rw [decide_eq_false z, decide_eq_true (by omega)]
      rfl
  | 1, _ =>
    have e : ((Int32.ofNat 1 &&& 31 : Int32)).toBitVec.smod 32 = 1#32 := by decide
    have s1 : (x >>> (Int32.ofNat 1 &&& 31)).toInt = x.toInt / 2 := by
      show ((x >>> (Int32.ofNat 1 &&& 31)).toBitVec).toInt = _
      rw [Int32.toBitVec_shiftRight, e]
      show (x.toBitVec.sshiftRight 1).toInt = _
      rw [BitVec.toInt_sshiftRight, Int.shiftRight_eq_div_pow]
      rfl
    have b : tbt x 1 = decide (x.toBitVec.toNat / 2 % 2 = 1) := Nat.testBit_eq_decide_div_mod_eq
    rw [key, s1, b]
    by_cases z : x.toBitVec.toNat / 2 % 2 = 1
    · rw [decide_eq_true z, decide_eq_false (by omega)]
      rfl
    · rw [decide_eq_false z, decide_eq_true (by omega)]
      rfl
  | 2, _ =>
    have e : ((Int32.ofNat 2 &&& 31 : Int32)).toBitVec.smod 32 = 2#32 := by decide
    have s1 : (x >>> (Int32.ofNat 2 &&& 31)).toInt = x.toInt / 4 := by
      show ((x >>> (Int32.ofNat 2 &&& 31)).toBitVec).toInt = _
      rw [Int32.toBitVec_shiftRight, e]
      show (x.toBitVec.sshiftRight 2).toInt = _
      rw [BitVec.toInt_sshiftRight, Int.shiftRight_eq_div_pow]
      rfl
    have b : tbt x 2 = decide (x.toBitVec.toNat / 4 % 2 = 1) := Nat.testBit_eq_decide_div_mod_eq
    rw [key, s1, b]
    by_cases z : x.toBitVec.toNat / 4 % 2 = 1
    · rw [decide_eq_true z, decide_eq_false (by omega)]
      rfl
    · rw [decide_eq_false z, decide_eq_true (by omega)]
      rfl
  | 3, _ =>
    have e : ((Int32.ofNat 3 &&& 31 : Int32)).toBitVec.smod 32 = 3#32 := by decide
    have s1 : (x >>> (Int32.ofNat 3 &&& 31)).toInt = x.toInt / 8 := by
      show ((x >>> (Int32.ofNat 3 &&& 31)).toBitVec).toInt = _
      rw [Int32.toBitVec_shiftRight, e]
      show (x.toBitVec.sshiftRight 3).toInt = _
      rw [BitVec.toInt_sshiftRight, Int.shiftRight_eq_div_pow]
      rfl
    have b : tbt x 3 = decide (x.toBitVec.toNat / 8 % 2 = 1) := Nat.testBit_eq_decide_div_mod_eq
    rw [key, s1, b]
    by_cases z : x.toBitVec.toNat / 8 % 2 = 1
    · rw [decide_eq_true z, decide_eq_false (by omega)]
      rfl
    · rw [decide_eq_false z, decide_eq_true (by omega)]
      rfl
  | 4, _ =>
    have e : ((Int32.ofNat 4 &&& 31 : Int32)).toBitVec.smod 32 = 4#32 := by decide
    have s1 : (x >>> (Int32.ofNat 4 &&& 31)).toInt = x.toInt / 16 := by
      show ((x >>> (Int32.ofNat 4 &&& 31)).toBitVec).toInt = _
      rw [Int32.toBitVec_shiftRight, e]
      show (x.toBitVec.sshiftRight 4).toInt = _
      rw [BitVec.toInt_sshiftRight, Int.shiftRight_eq_div_pow]
      rfl
    have b : tbt x 4 = decide (x.toBitVec.toNat / 16 % 2 = 1) := Nat.testBit_eq_decide_div_mod_eq
    rw [key, s1, b]
    by_cases z : x.toBitVec.toNat / 16 % 2 = 1
    · rw [decide_eq_true z, decide_eq_false (by omega)]
      rfl
    · rw [decide_eq_false z, decide_eq_true (by omega)]
      rfl
  | 5, _ =>
    have e : ((Int32.ofNat 5 &&& 31 : Int32)).toBitVec.smod 32 = 5#32 := by decide
    have s1 : (x >>> (Int32.ofNat 5 &&& 31)).toInt = x.toInt / 32 := by
      show ((x >>> (Int32.ofNat 5 &&& 31)).toBitVec).toInt = _
      rw [Int32.toBitVec_shiftRight, e]
      show (x.toBitVec.sshiftRight 5).toInt = _
      rw [BitVec.toInt_sshiftRight, Int.shiftRight_eq_div_pow]
      rfl
    have b : tbt x 5 = decide (x.toBitVec.toNat / 32 % 2 = 1) := Nat.testBit_eq_decide_div_mod_eq
    rw [key, s1, b]
    by_cases z : x.toBitVec.toNat / 32 % 2 = 1
    · rw [decide_eq_true z, decide_eq_false (by omega)]
      rfl
    · rw [decide_eq_false z, decide_eq_true (by omega)]
      rfl
  | d + 6, z => omega
section PCRS
variable {s : Nat → Int32} {m : xS} {F : Nat}
theorem c92u (R : R32 s (m.1 10)) {a d : Nat} {v1 v2 : Int32} (h1 : v1 = Int32.ofNat a) (h2 : v2 = Int32.ofNat d) (ha : a < 6) (hd : d < 6) : D92_9 F v1 v2 m = some (pB (ptr s a d), m) := by
  subst h2
  unfold D92_9
  refine ob (c91_9 R h1 ha) (oi (p := !ptr s a d) ?_ (fun h => ?_) (fun h => ?_))
  · rw [tbu hd, R_tr R ha hd]
  · rw [show ptr s a d = false by simpa using h]
    rfl
  · rw [show ptr s a d = true by simpa using h]
    rfl
theorem c101u (R : R32 s (m.1 10)) (I : vI s) {t h : Nat} {v1 v2 : Int32} (h1 : v1 = Int32.ofNat t) (h2 : v2 = Int32.ofNat h) (ht : (t : Int) < (s 2).toInt) (hh : h < 6) : D101_9 F v1 v2 m = some (pB (pcl s t h), m) := by
  have t6 : t < 6 := by have := I_nt I; omega
  have it := I.2.1 t ht
  have n6 := I_n6 I
  have eh : s (10 + 6 * t + 3) = Int32.ofNat (s (10 + 6 * t + 3)).toInt.toNat := i32n (by omega)
  subst h2
  unfold D101_9 D101_9_28
  refine ob (c87_9 R h1 (w := 0) rfl t6 (by decide)) (oi (p := Int32.ofNat h == s (10 + 6 * t)) zce (fun a => ?_) (fun a => ?_))
  · have a : Int32.ofNat h = s (10 + 6 * t) := by simpa using a
    rw [show pcl s t h = false by unfold pcl; rw [← a]; simp]
    rfl
  have a : ¬ Int32.ofNat h = s (10 + 6 * t) := by simpa using a
  have a2 : (s (10 + 6 * t) == Int32.ofNat h) = false := by
    simp only [beq_eq_false_iff_ne]
    exact fun z => a z.symm
  refine ob (c87_9 R h1 (w := 3) rfl t6 (by decide)) (ob (c92u R (a := (s (10 + 6 * t + 3)).toInt.toNat) eh rfl (by omega) hh) (oi (p := !ptr s (s (10 + 6 * t + 3)).toInt.toNat h) pB1 (fun b => ?_) (fun b => ?_)))
  · have b : ptr s (s (10 + 6 * t + 3)).toInt.toNat h = false := by simpa using b
    rw [show pcl s t h = false by unfold pcl; rw [b]; simp]
    rfl
  · have b : ptr s (s (10 + 6 * t + 3)).toInt.toNat h = true := by simpa using b
    have ne : (s (10 + 6 * t + 3) == Int32.ofNat h) = false := by
      simp only [beq_eq_false_iff_ne]
      intro z
      have dg := (I.2.2.2.1 h hh).1
      rw [z, nJ (by omega), Int.toNat_natCast] at b
      unfold ptr at b
      rw [dg] at b
      exact absurd b (by decide)
    rw [show pcl s t h = true by unfold pcl; rw [b, ne, a2]; rfl]
    rfl
theorem c114_6 (R : R32 s (m.1 10)) (I : vI s) {t h x : Nat} {v4 : Int32} {g : Bool} (hg : zcmp .eq v4 0 = !g) (ht : (t : Int) < (s 2).toInt) (hx : x < 4) : ∀ (f : Nat) {k : Nat} {v : Int32}, (k : Int) ≤ (s 3).toInt → 7 - k < f → D114_9_6 F f (Int32.ofNat t) (Int32.ofNat h) (Int32.ofNat x) v4 v (Int32.ofNat k) m = some (wnt s t h x g k ((s 3).toInt.toNat - k) v, m) := by
  have n6 := I_nw I
  have t6 : t < 6 := by have := I_nt I; omega
  intro f
  induction f with
  | zero => intro k v _ l; omega
  | succ f ih =>
    intro k v hk l
    have ek := nJ (n := k) (by omega)
    unfold D114_9_6
    refine ob (c80_9 R) (oi (p := decide ((s 3).toInt ≤ (Int32.ofNat k).toInt)) zc (fun q => ?_) (fun q => ?_))
    · have q := of_decide_eq_true q
      rw [show (s 3).toInt.toNat - k = 0 by omega]
      rfl
    · have q := of_decide_eq_false q
      have k6 : k < 6 := by omega
      have kw : (k : Int) < (s 3).toInt := by omega
      rw [show (s 3).toInt.toNat - k = ((s 3).toInt.toNat - (k + 1)) + 1 by omega]
      have nx : Int32.ofNat k + Int32.ofInt 1 = Int32.ofNat (k + 1) := xadd (a := k) (b := 1) (by omega)
      have skip : ∀ {v' : Int32}, D114_9_84 F (D114_9_6 F f) (Int32.ofNat t) (Int32.ofNat h) (Int32.ofNat x) v4 v' (Int32.ofNat k) m = some (wnt s t h x g (k + 1) ((s 3).toInt.toNat - (k + 1)) v', m) := fun {v'} => by
        unfold D114_9_84
        rw [nx]
        exact ih (by omega) (by omega)
      show _ = some (wnt s t h x g (k + 1) ((s 3).toInt.toNat - (k + 1)) (if wsel s t h k = true then _ else v), m)
      refine ob (c89_9 R (w := k) (k := 0) rfl rfl k6 (by decide)) (oi (p := !(s (124 + 4 * k + 0) == Int32.ofNat h)) zcn (fun a => ?_) (fun a => ?_))
      · have a : (s (124 + 4 * k) == Int32.ofNat h) = false := by simpa using a
        rw [show wsel s t h k = false by unfold wsel; rw [a, Bool.false_and], if_neg (by decide)]
        exact skip
      have a : (s (124 + 4 * k) == Int32.ofNat h) = true := by simpa using a
      have ln := (I.2.2.1 k kw).2
      refine ob (c89d_9 R (w := k) rfl k6 kw) (oi (p := pdn s k) ((zcni (y := -1) rfl).trans ?_) (fun b => ?_) (fun b => ?_))
      · unfold pdn
        by_cases z : (s (118 + k)).toInt = -1
        · rw [decide_eq_true z, decide_eq_false (by omega)]
          rfl
        · rw [decide_eq_false z, decide_eq_true (by omega)]
          rfl
      · rw [show wsel s t h k = false by unfold wsel; rw [b]; simp, if_neg (by decide)]
        exact skip
      refine ob (c89_9 R (w := k) (k := 1) rfl rfl k6 (by decide)) (ob (c87_9 R (t := t) (w := 1) rfl rfl t6 (by decide)) (oi (p := !(s (124 + 4 * k + 1) == s (10 + 6 * t + 1))) zcn (fun c => ?_) (fun c => ?_)))
      · have c : (s (124 + 4 * k + 1) == s (10 + 6 * t + 1)) = false := by simpa using c
        rw [show wsel s t h k = false by unfold wsel; rw [c]; simp, if_neg (by decide)]
        exact skip
      have c : (s (124 + 4 * k + 1) == s (10 + 6 * t + 1)) = true := by simpa using c
      rw [show wsel s t h k = true by unfold wsel; rw [a, b, c]; rfl, if_pos rfl]
      refine ob (c89_9 R (w := k) (k := x) rfl rfl k6 hx) (oi (p := !g) hg (fun e => ?_) (fun e => ?_))
      · rw [show g = false by simpa using e, if_neg (by decide)]
        unfold D114_9_82
        rw [show g = false by simpa using e] at skip
        exact skip
      · rw [show g = true by simpa using e, if_pos rfl]
        unfold D114_9_82
        rw [show g = true by simpa using e] at skip
        exact skip
theorem c114 (hF : 500 ≤ F) (R : R32 s (m.1 10)) (I : vI s) {t h x : Nat} {v4 : Int32} {g : Bool} (hg : zcmp .eq v4 0 = !g) (ht : (t : Int) < (s 2).toInt) (hx : x < 4) : D114_9 F (Int32.ofNat t) (Int32.ofNat h) (Int32.ofNat x) v4 m = some (wnt s t h x g 0 (s 3).toInt.toNat 0, m) := by
  have n6 := I_nw I
  have z := c114_6 (F := F) R I hg ht hx F (h := h) (k := 0) (v := 0) (by omega) (by omega)
  rw [Nat.sub_zero] at z
  unfold D114_9
  exact z
theorem c31 (hF : 500 ≤ F) (R : R32 s (m.1 10)) (I : vI s) {t h i : Nat} (ht : (t : Int) < (s 2).toInt) (hh : h < 6) (hi : i < 20) : D31_9 F (Int32.ofNat i) (Int32.ofNat t) (Int32.ofNat h) m = some (wrd s t h i, m) := by
  have t6 : t < 6 := by have := I_nt I; omega
  have it := I.2.1 t ht
  have n6 := I_n6 I
  have eh : s (10 + 6 * t + 3) = Int32.ofNat (s (10 + 6 * t + 3)).toInt.toNat := i32n (by omega)
  have lh : (s (10 + 6 * t + 3)).toInt.toNat < 6 := by omega
  have k : ∀ {w : Nat}, w < 6 → D87_9 F (Int32.ofNat t) (Int32.ofNat w) m = some (s (10 + 6 * t + w), m) := fun hw => c87_9 R rfl rfl t6 hw
  have tr : ((D92_9 F (Int32.ofNat h) (s (10 + 6 * t + 3)) m).bind fun q149 => if zcmp .eq q149.1 0 = true then some ((0 : Int32), q149.2) else some (1, q149.2)) = some ((if ptr s h (s (10 + 6 * t + 3)).toInt.toNat = true then (1 : Int32) else 0), m) := ob (c92u R rfl eh hh lh) (oi (p := !ptr s h (s (10 + 6 * t + 3)).toInt.toNat) pB1 (fun z => by
    rw [if_neg (by simpa using z)]) (fun z => by
    rw [if_pos (by simpa using z)]))
  unfold D31_9
  refine ob (k (w := 3) (by decide)) ?_
  match i, hi with
  | 0, _ => exact oT (by decide) (rfl)
  | 1, _ => exact oF (by decide) (oT (by decide) (ob (k (w := 1) (by decide)) rfl))
  | 2, _ => exact oF (by decide) (oF (by decide) (oT (by decide) (ob (k (w := 0) (by decide)) rfl)))
  | 3, _ => exact oF (by decide) (oF (by decide) (oF (by decide) (oT (by decide) (rfl))))
  | 4, _ => exact oF (by decide) (oF (by decide) (oF (by decide) (oF (by decide) (oT (by decide) (rfl)))))
  | 5, _ => exact oF (by decide) (oF (by decide) (oF (by decide) (oF (by decide) (oF (by decide) (oT (by decide) (ob (k (w := 4) (by decide)) rfl))))))
  | 6, _ => exact oF (by decide) (oF (by decide) (oF (by decide) (oF (by decide) (oF (by decide) (oF (by decide) (oT (by decide) (ob (c100_9 R I rfl ht) rfl)))))))
  | 7, _ => exact oF (by decide) (oF (by decide) (oF (by decide) (oF (by decide) (oF (by decide) (oF (by decide) (oF (by decide) (oT (by decide) (ob (k (w := 5) (by decide)) rfl))))))))
  | 8, _ => exact oF (by decide) (oF (by decide) (oF (by decide) (oF (by decide) (oF (by decide) (oF (by decide) (oF (by decide) (oF (by decide) (oT (by decide) (ob (c81_9 R) rfl)))))))))
  | 9, _ => exact oF (by decide) (oF (by decide) (oF (by decide) (oF (by decide) (oF (by decide) (oF (by decide) (oF (by decide) (oF (by decide) (oF (by decide) (oT (by decide) (ob (c114 hF R I (x := 2) (g := true) (by decide) ht (by decide)) rfl))))))))))
  | 10, _ => exact oF (by decide) (oF (by decide) (oF (by decide) (oF (by decide) (oF (by decide) (oF (by decide) (oF (by decide) (oF (by decide) (oF (by decide) (oF (by decide) (oT (by decide) (ob (c114 hF R I (x := 3) (g := false) (by decide) ht (by decide)) rfl)))))))))))
  | 11, _ => exact oF (by decide) (oF (by decide) (oF (by decide) (oF (by decide) (oF (by decide) (oF (by decide) (oF (by decide) (oF (by decide) (oF (by decide) (oF (by decide) (oF (by decide) (oT (by decide) (ob (c94_9 R rfl eh hh lh) rfl))))))))))))
  | 12, _ => exact oF (by decide) (oF (by decide) (oF (by decide) (oF (by decide) (oF (by decide) (oF (by decide) (oF (by decide) (oF (by decide) (oF (by decide) (oF (by decide) (oF (by decide) (oF (by decide) (tr))))))))))))
  | 13, _ => exact oF (by decide) (oF (by decide) (oF (by decide) (oF (by decide) (oF (by decide) (oF (by decide) (oF (by decide) (oF (by decide) (oF (by decide) (oF (by decide) (oF (by decide) (oF (by decide) (tr))))))))))))
  | 14, _ => exact oF (by decide) (oF (by decide) (oF (by decide) (oF (by decide) (oF (by decide) (oF (by decide) (oF (by decide) (oF (by decide) (oF (by decide) (oF (by decide) (oF (by decide) (oF (by decide) (tr))))))))))))
  | 15, _ => exact oF (by decide) (oF (by decide) (oF (by decide) (oF (by decide) (oF (by decide) (oF (by decide) (oF (by decide) (oF (by decide) (oF (by decide) (oF (by decide) (oF (by decide) (oF (by decide) (tr))))))))))))
  | 16, _ => exact oF (by decide) (oF (by decide) (oF (by decide) (oF (by decide) (oF (by decide) (oF (by decide) (oF (by decide) (oF (by decide) (oF (by decide) (oF (by decide) (oF (by decide) (oF (by decide) (tr))))))))))))
  | 17, _ => exact oF (by decide) (oF (by decide) (oF (by decide) (oF (by decide) (oF (by decide) (oF (by decide) (oF (by decide) (oF (by decide) (oF (by decide) (oF (by decide) (oF (by decide) (oF (by decide) (tr))))))))))))
  | 18, _ => exact oF (by decide) (oF (by decide) (oF (by decide) (oF (by decide) (oF (by decide) (oF (by decide) (oF (by decide) (oF (by decide) (oF (by decide) (oF (by decide) (oF (by decide) (oF (by decide) (tr))))))))))))
  | 19, _ => exact oF (by decide) (oF (by decide) (oF (by decide) (oF (by decide) (oF (by decide) (oF (by decide) (oF (by decide) (oF (by decide) (oF (by decide) (oF (by decide) (oF (by decide) (oF (by decide) (tr))))))))))))
  | i + 20, z => omega
theorem c29h {c : Bool} {p : Prop} [Decidable p] (hc : c = !decide p) : ((if c = true then some ((0 : Int32), m) else some (1, m)).bind fun q => if zcmp .eq q.1 0 = true then some ((0 : Int64), q.2) else some (1, q.2)) = some ((if p then 1 else 0), m) := by
  subst hc
  by_cases h : p
  · rw [decide_eq_true h, if_pos h]
    rfl
  · rw [decide_eq_false h, if_neg h]
    rfl
theorem ngt {a b : Int} : decide (b ≤ a) = !decide (a < b) := by
  by_cases h : b ≤ a
  · rw [decide_eq_true h, decide_eq_false (by omega)]
    rfl
  · rw [decide_eq_false h, decide_eq_true (by omega)]
    rfl
theorem ngt2 {a b : Int} : decide (b < a) = !decide (a ≤ b) := by
  by_cases h : b < a
  · rw [decide_eq_true h, decide_eq_false (by omega)]
    rfl
  · rw [decide_eq_false h, decide_eq_true (by omega)]
    rfl
theorem c29 {k : Int32} {x y : Int64} {z : Int} (hk : k.toInt = z) (h1 : 1 ≤ z) (h2 : z ≤ 13) (h3 : z ≠ 3) : D29 F k x y m = some (sop z x y, m) := by
  obtain ⟨g1, g2, g3, g4, g5⟩ := lgS x y
  have n0 : ∀ z : Int64, ¬ z = 0 → (!(z == 0)) = true := fun z h => by simp [h]
  have hz : z = 1 ∨ z = 2 ∨ z = 4 ∨ z = 5 ∨ z = 6 ∨ z = 7 ∨ z = 8 ∨ z = 9 ∨ z = 10 ∨ z = 11 ∨ z = 12 ∨ z = 13 := by omega
  rcases hz with rfl | rfl | rfl | rfl | rfl | rfl | rfl | rfl | rfl | rfl | rfl | rfl
  · obtain rfl : k = 1 := Int32.toInt_inj.mp (hk.trans rfl)
    unfold D29
    exact oT (by decide) rfl
  · obtain rfl : k = 2 := Int32.toInt_inj.mp (hk.trans rfl)
    unfold D29
    exact oF (by decide) (oT (by decide) rfl)
  · obtain rfl : k = 4 := Int32.toInt_inj.mp (hk.trans rfl)
    unfold D29
    have z : D30 F 4 x y m = (if zcmp .ge (lg_cmp x y) 0 = true then some (0, m) else some (1, m)) := by
      unfold D30
      exact oT (by decide) rfl
    exact oF (by decide) (oF (by decide) (oF (by decide) (oT (by decide) (by rw [z]; exact c29h (g1.trans ngt)))))
  · obtain rfl : k = 5 := Int32.toInt_inj.mp (hk.trans rfl)
    unfold D29
    have z : D30 F 5 x y m = (if zcmp .gt (lg_cmp x y) 0 = true then some (0, m) else some (1, m)) := by
      unfold D30
      exact oF (by decide) (oT (by decide) rfl)
    exact oF (by decide) (oF (by decide) (oF (by decide) (oF (by decide) (oT (by decide) (by rw [z]; exact c29h (g2.trans ngt2))))))
  · obtain rfl : k = 6 := Int32.toInt_inj.mp (hk.trans rfl)
    unfold D29
    have z : D30 F 6 x y m = (if zcmp .ne (lg_cmp x y) 0 = true then some (0, m) else some (1, m)) := by
      unfold D30
      exact oF (by decide) (oF (by decide) (oT (by decide) rfl))
    exact oF (by decide) (oF (by decide) (oF (by decide) (oF (by decide) (oF (by decide) (oT (by decide) (by rw [z]; exact c29h (g3)))))))
  · obtain rfl : k = 7 := Int32.toInt_inj.mp (hk.trans rfl)
    unfold D29
    have z : D30 F 7 x y m = (if zcmp .lt (lg_cmp x y) 0 = true then some (0, m) else some (1, m)) := by
      unfold D30
      exact oF (by decide) (oF (by decide) (oF (by decide) (oT (by decide) rfl)))
    exact oF (by decide) (oF (by decide) (oF (by decide) (oF (by decide) (oF (by decide) (oF (by decide) (oT (by decide) (by rw [z]; exact c29h (g4.trans ngt2))))))))
  · obtain rfl : k = 8 := Int32.toInt_inj.mp (hk.trans rfl)
    unfold D29
    have z : D30 F 8 x y m = (if zcmp .le (lg_cmp x y) 0 = true then some (0, m) else some (1, m)) := by
      unfold D30
      exact oF (by decide) (oF (by decide) (oF (by decide) (oF (by decide) (rfl))))
    exact oF (by decide) (oF (by decide) (oF (by decide) (oF (by decide) (oF (by decide) (oF (by decide) (oF (by decide) (oT (by decide) (by rw [z]; exact c29h (g5.trans ngt)))))))))
  · obtain rfl : k = 9 := Int32.toInt_inj.mp (hk.trans rfl)
    unfold D29
    exact oF (by decide) (oF (by decide) (oF (by decide) (oF (by decide) (oF (by decide) (oF (by decide) (oF (by decide) (oF (by decide) (oT (by decide) rfl))))))))
  · obtain rfl : k = 10 := Int32.toInt_inj.mp (hk.trans rfl)
    unfold D29
    exact oF (by decide) (oF (by decide) (oF (by decide) (oF (by decide) (oF (by decide) (oF (by decide) (oF (by decide) (oF (by decide) (oF (by decide) (oT (by decide) rfl)))))))))
  · obtain rfl : k = 11 := Int32.toInt_inj.mp (hk.trans rfl)
    unfold D29
    exact oF (by decide) (oF (by decide) (oF (by decide) (oF (by decide) (oF (by decide) (oF (by decide) (oF (by decide) (oF (by decide) (oF (by decide) (oF (by decide) (oT (by decide) rfl))))))))))
  · obtain rfl : k = 12 := Int32.toInt_inj.mp (hk.trans rfl)
    show D29 F 12 x y m = some ((if y = 0 then 0 else x / y), m)
    unfold D29
    exact oF (by decide) (oF (by decide) (oF (by decide) (oF (by decide) (oF (by decide) (oF (by decide) (oF (by decide) (oF (by decide) (oF (by decide) (oF (by decide) (oF (by decide) (oT (by decide) (obd (lg0 y) (fun h => by rw [if_pos (n0 y h)]) (fun _ => rfl)))))))))))))
  · obtain rfl : k = 13 := Int32.toInt_inj.mp (hk.trans rfl)
    show D29 F 13 x y m = some ((if y = 0 then 0 else x - x / y * y), m)
    unfold D29
    exact oF (by decide) (oF (by decide) (oF (by decide) (oF (by decide) (oF (by decide) (oF (by decide) (oF (by decide) (oF (by decide) (oF (by decide) (oF (by decide) (oF (by decide) (oF (by decide) (oT (by decide) (obd (lg0 y) (fun h => by rw [if_pos (n0 y h)]) (fun _ => rfl))))))))))))))
/-- where the class's run over steps goes well -/
def cgd (w : Nat → Int64) : List Int → List Int64 → Prop
  | [], _ => True
  | s :: r, st => if s = 14 then 1 ≤ st.length else if s = 15 then (2 ≤ st.length ∧ (st.reverse.getD 1 0 = 0 → cgd w r [])) else ((1 ≤ s ∧ s ≤ 13) ∨ 20 ≤ s) ∧ (20 ≤ s → st.length < 64) ∧ ∃ st', sst w s st = some st' ∧ cgd w r st'
theorem tyS_rng {s : Int} {L L' : List Bool} (t : tyS s L = some L') : (1 ≤ s ∧ s ≤ 13) ∨ 20 ≤ s := by
  unfold tyS at t
  by_cases a : 20 ≤ s
  · exact Or.inr a
  rw [if_neg a] at t
  by_cases b : s = 3
  · omega
  rw [if_neg b] at t
  by_cases c : s = 1 ∨ s = 2
  · omega
  rw [if_neg c] at t
  by_cases d : 4 ≤ s ∧ s ≤ 8
  · omega
  rw [if_neg d] at t
  by_cases e : 9 ≤ s ∧ s ≤ 13
  · omega
  rw [if_neg e] at t
  cases t
theorem tyR_len : ∀ {out : List Int} {L L' : List Bool}, tyR out L = some L' → L'.length ≤ L.length + cnt out
  | [], L, L', t => by
    have t : L = L' := Option.some.inj t
    rw [t]
    exact Nat.le_refl _
  | s :: out, L, L', t => by
    have t : (tyR out L).bind (tyS s) = some L' := t
    obtain ⟨L1, t1, t2⟩ := Option.bind_eq_some_iff.mp t
    have a := tyR_len t1
    have b := tyS_len t2
    show L'.length ≤ L.length + ((if 20 ≤ s then 1 else 0) + cnt out)
    omega
theorem cgd_run {w : Nat → Int64} : ∀ {out rest : List Int} {L L' : List Bool} {st b : List Int64}, tyR out L = some L' → tyV L st → L.length + b.length + cnt out ≤ 64 → (∀ st', srun w out st = some st' → cgd w rest (st' ++ b)) → cgd w (out.reverse ++ rest) (st ++ b)
  | [], rest, L, L', st, b, _, _, _, h => h st rfl
  | s :: out, rest, L, L', st, b, t, v, l, h => by
    have no := tyR_no t s (List.mem_cons_self ..)
    have t : (tyR out L).bind (tyS s) = some L' := t
    obtain ⟨L1, t1, t2⟩ := Option.bind_eq_some_iff.mp t
    have l : L.length + b.length + ((if 20 ≤ s then 1 else 0) + cnt out) ≤ 64 := l
    have l1 := tyR_len t1
    rw [List.reverse_cons, List.append_assoc]
    refine cgd_run t1 v (by omega) (fun st1 h1 => ?_)
    obtain ⟨st0, e0, v1⟩ := srun_ty (w := w) t1 v
    rw [h1] at e0
    have e0 := Option.some.inj e0
    subst e0
    obtain ⟨st2, e2, v2⟩ := sst_ty (w := w) t2 v1
    show (if s = 14 then _ else if s = 15 then _ else _)
    rw [if_neg no.1, if_neg no.2]
    have lv := tyV_l v1
    refine ⟨tyS_rng t2, fun h20 => ?_, st2 ++ b, sst_fr e2, h st2 ?_⟩
    · rw [if_pos h20] at l
      rw [List.length_append, lv]
      omega
    · show (srun w out st).bind (sst w s) = some st2
      rw [h1]
      exact e2
theorem cgd_out {w : Nat → Int64} : ∀ {Q : List (List Int × Option (List Int))} {rest : List Int}, (∀ q ∈ Q, tyC q) → cnt (outOf Q) ≤ 60 → cgd w rest [] → cgd w ((outOf Q).reverse ++ rest) []
  | [], rest, _, _, h => h
  | (cs, none) :: Q, rest, hQ, hc, h => by
    have hq := hQ _ (List.mem_cons_self ..)
    have t1 : tyR cs [] = some [false] := hq.1
    have hc : cnt (14 :: (cs ++ outOf Q)) ≤ 60 := hc
    rw [cnt_c (by decide), cnt_app] at hc
    show cgd w ((14 :: (cs ++ outOf Q)).reverse ++ rest) []
    rw [List.reverse_cons, List.reverse_append, List.append_assoc, List.append_assoc]
    refine cgd_out (fun x hx => hQ x (List.mem_cons_of_mem _ hx)) (by omega) ?_
    have z := cgd_run (w := w) (rest := [14] ++ rest) (st := []) (b := []) t1 trivial (by show 0 + 0 + cnt cs ≤ 64; omega) (fun st' e => ?_)
    · exact z
    · rw [sv_one (w := w) t1] at e
      have e := Option.some.inj e
      subst e
      show (if (14 : Int) = 14 then _ else _)
      rw [if_pos rfl]
      exact Nat.le_refl _
  | (cs, some ct) :: Q, rest, hQ, hc, h => by
    have hq := hQ _ (List.mem_cons_self ..)
    have t1 : tyR cs [] = some [false] := hq.1
    have t2 : tyR ct [] = some [true] := hq.2
    have hc : cnt (15 :: (ct ++ (cs ++ outOf Q))) ≤ 60 := hc
    rw [cnt_c (by decide), cnt_app, cnt_app] at hc
    show cgd w ((15 :: (ct ++ (cs ++ outOf Q))).reverse ++ rest) []
    rw [List.reverse_cons, List.reverse_append, List.reverse_append, List.append_assoc, List.append_assoc, List.append_assoc]
    refine cgd_out (fun x hx => hQ x (List.mem_cons_of_mem _ hx)) (by omega) ?_
    have z := cgd_run (w := w) (rest := ct.reverse ++ ([15] ++ rest)) (st := []) (b := []) t1 trivial (by show 0 + 0 + cnt cs ≤ 64; omega) (fun st' e => ?_)
    · exact z
    · rw [sv_one (w := w) t1] at e
      have e := Option.some.inj e
      subst e
      have z2 := cgd_run (w := w) (rest := [15] ++ rest) (st := []) (b := [sv w cs]) t2 trivial (by show 0 + 1 + cnt ct ≤ 64; omega) (fun st' e => ?_)
      · exact z2
      · rw [sv_one (w := w) t2] at e
        have e := Option.some.inj e
        subst e
        show (if (15 : Int) = 14 then _ else if (15 : Int) = 15 then _ else _)
        rw [if_neg (by decide), if_pos rfl]
        exact ⟨Nat.le_refl _, fun _ => h⟩
/-- a stack in a row of longs -/
def sC (m : xS) (c : Nat) (st : List Int64) : Prop := ∀ (j : Nat) (x : Int64), st.reverse[j]? = some x → m.2 c j = x
theorem sC_up {c : Nat} {st : List Int64} {v : Int64} (h : sC m c st) : sC (xul m c st.length v) c (v :: st) := fun j x hx => by
  rw [List.reverse_cons] at hx
  by_cases z : j < st.length
  · rw [List.getElem?_append_left (by rw [List.length_reverse]; exact z)] at hx
    exact (if_neg (fun y => by omega)).trans (h j x hx)
  · by_cases z2 : j = st.length
    · subst z2
      rw [List.getElem?_append_right (by rw [List.length_reverse]; exact Nat.le_refl _), List.length_reverse, Nat.sub_self] at hx
      have hx : v = x := Option.some.inj hx
      exact (if_pos ⟨rfl, rfl⟩).trans hx
    · rw [List.getElem?_eq_none (by rw [List.length_append, List.length_reverse]; show st.length + 1 ≤ j; omega)] at hx
      cases hx
theorem sC_tl {c : Nat} {st : List Int64} {v : Int64} (h : sC m c (v :: st)) : sC m c st ∧ m.2 c st.length = v := by
  constructor
  · intro j x hx
    refine h j x ?_
    rw [List.reverse_cons, List.getElem?_append_left (List.getElem?_eq_some_iff.mp hx).1]
    exact hx
  · refine h st.length v ?_
    rw [List.reverse_cons, List.getElem?_append_right (by rw [List.length_reverse]; exact Nat.le_refl _), List.length_reverse, Nat.sub_self]
    rfl
theorem sC_g {c j : Nat} {st : List Int64} (h : sC m c st) (l : j < st.length) : m.2 c j = st.reverse.getD j 0 := by
  have e : st.reverse[j]? = some (st.reverse[j]'(by rw [List.length_reverse]; exact l)) := List.getElem?_eq_getElem _
  rw [List.getD_eq_getElem?_getD, e]
  exact h j _ e
theorem o1 {n : Nat} (h : n < 2000) : Int32.ofNat (n + 1) + Int32.ofInt (-1) = Int32.ofNat n ∧ Int32.ofNat (n + 1) - 1 = Int32.ofNat n ∧ Int32.ofNat n + Int32.ofInt 1 = Int32.ofNat (n + 1) := by
  refine ⟨?_, xsub (a := n + 1) (b := 1) (by omega) (by omega), xadd (a := n) (b := 1) (by omega)⟩
  apply Int32.toInt_inj.mp
  have e1 : (Int32.ofInt (-1)).toInt = -1 := rfl
  exact (xa1 (by rw [xI (by omega), e1]; omega) (by rw [xI (by omega), e1]; omega)).trans (by rw [xI (by omega), e1, xI (by omega)]; omega)
/-- sumFor: its loop -/
theorem c28_6 (hF : 500 ≤ F) {r0 nn : Nat} (hn : nn ≤ 400) (I : vI s) {t h : Nat} (ht : (t : Int) < (s 2).toInt) (hh : h < 6) : ∀ (f : Nat) {m : xS} {p : Nat} {xs : List Int} {st : List Int64}, R32 s (m.1 10) → p + xs.length = nn → xs.length < f → (∀ (j : Nat) (x : Int), xs[j]? = some x → (m.1 (r0 + 1) (p + j)).toInt = x) → sC m (r0 + 2) st → st.length ≤ 64 → cgd (wrl s t h) xs st → ∃ M : Nat → Nat → Int64, D28_R_9_6 F r0 nn f (Int32.ofNat t) (Int32.ofNat h) (Int32.ofNat st.length) (Int32.ofNat p) m = some (csum (wrl s t h) xs st, (m.1, M)) ∧ ∀ i j, i ≠ r0 + 2 → M i j = m.2 i j := by
  intro f
  induction f with
  | zero => intro m p xs st _ _ l; omega
  | succ f ih =>
    intro m p xs st R hp lf hx hs h64 hg
    have ep := nJ (n := p) (by omega)
    have en := nJ (n := nn) (by omega)
    unfold D28_R_9_6
    cases xs with
    | nil =>
      have hp : p = nn := hp
      exact ⟨m.2, oT (zc.trans (decide_eq_true (by omega))) rfl, fun _ _ _ => rfl⟩
    | cons x xs =>
      rw [List.length_cons] at hp lf
      have X := hx 0 x rfl
      rw [Nat.add_zero] at X
      have hx' : ∀ (j : Nat) (y : Int), xs[j]? = some y → (m.1 (r0 + 1) (p + 1 + j)).toInt = y := fun j y hj => by
        rw [show p + 1 + j = p + (j + 1) by omega]
        exact hx (j + 1) y hj
      have gi : (Int32.ofNat p).toNatClampNeg = p := gxn ep
      rw [gi]
      generalize hXX : m.1 (r0 + 1) p = Y at X
      have c0 : zcmp .ge (Int32.ofNat p) (Int32.ofNat nn) = false := zc.trans (decide_eq_false (by omega))
      have c1 : xib (Int32.ofNat p) nn = true := gxb ep (by omega)
      have nx : ∀ {m1 : xS} {st1 : List Int64} {v6 : Int32}, m1.1 = m.1 → (∀ i j, i ≠ r0 + 2 → m1.2 i j = m.2 i j) → sC m1 (r0 + 2) st1 → st1.length ≤ 64 → cgd (wrl s t h) xs st1 → csum (wrl s t h) xs st1 = csum (wrl s t h) (x :: xs) st → ∃ M : Nat → Nat → Int64, D28_R_9_198 F r0 nn (D28_R_9_6 F r0 nn f) (Int32.ofNat t) (Int32.ofNat h) (Int32.ofNat st1.length) (Int32.ofNat p) v6 m1 = some (csum (wrl s t h) (x :: xs) st, (m.1, M)) ∧ ∀ i j, i ≠ r0 + 2 → M i j = m.2 i j := fun {m1 st1 v6} e1 e2 e3 e4 e5 e6 => by
        obtain ⟨M, d1, d2⟩ := ih (m := m1) (p := p + 1) (xs := xs) (st := st1) (by rw [e1]; exact R) (by omega) (by omega) (by rw [e1]; exact hx') e3 e4 e5
        unfold D28_R_9_198
        rw [(o1 (n := p) (by omega)).2.2]
        exact ⟨M, by rw [d1, e6, e1], fun i j z => (d2 i j z).trans (e2 i j z)⟩
      have l0 : (20 : Int32).toInt = 20 := rfl
      have l40 : (40 : Int32).toInt = 40 := rfl
      have hg : if x = 14 then 1 ≤ st.length else if x = 15 then (2 ≤ st.length ∧ (st.reverse.getD 1 0 = 0 → cgd (wrl s t h) xs [])) else ((1 ≤ x ∧ x ≤ 13) ∨ 20 ≤ x) ∧ (20 ≤ x → st.length < 64) ∧ ∃ st', sst (wrl s t h) x st = some st' ∧ cgd (wrl s t h) xs st' := hg
      have hcs : csum (wrl s t h) (x :: xs) st = if x = 14 then st.reverse.getD 0 0 else if x = 15 then (if st.reverse.getD 1 0 ≠ 0 then st.reverse.getD 0 0 else csum (wrl s t h) xs []) else match sst (wrl s t h) x st with
        | some st' => csum (wrl s t h) xs st'
        | none => csum (wrl s t h) xs st := rfl
      by_cases k14 : x = 14
      · rw [if_pos k14] at hg hcs
        refine ⟨m.2, oF c0 (oT c1 (oT (zcl.trans (decide_eq_true (by omega))) (oF ((zcni (y := 14) rfl).trans (by rw [decide_eq_true (by omega)]; rfl)) ?_))), fun _ _ _ => rfl⟩
        rw [hcs, ← sC_g hs hg]
      rw [if_neg k14] at hg hcs
      by_cases k15 : x = 15
      · rw [if_pos k15] at hg hcs
        have g1 := sC_g hs (show 1 < st.length by omega)
        have g0 := sC_g hs (show 0 < st.length by omega)
        have two : ∀ {r : Option (Int64 × xS)} {a : Option (Int64 × xS)}, (st.reverse.getD 1 0 = 0 → a = r) → (¬ st.reverse.getD 1 0 = 0 → some ((m.2 (r0 + 2) 0), m) = r) → (if zcmp .eq (lg_cmp (m.2 (r0 + 2) 1) 0) 0 = true then a else some ((m.2 (r0 + 2) 0), m)) = r := fun {r a} h1 h2 => by
          rw [g1]
          have z := lg0 (st.reverse.getD 1 0)
          have z2 : zcmp .eq (lg_cmp (st.reverse.getD 1 0) 0) 0 = decide (st.reverse.getD 1 0 = 0) := by
            rw [zce]
            rw [zcn] at z
            have z := congrArg Bool.not z
            rw [Bool.not_not, Bool.not_not] at z
            exact z
          rw [z2]
          by_cases y : st.reverse.getD 1 0 = 0
          · rw [decide_eq_true y, if_pos rfl]
            exact h1 y
          · rw [decide_eq_false y, if_neg (by decide)]
            exact h2 y
        by_cases y : st.reverse.getD 1 0 = 0
        · rw [if_neg (fun z => z y)] at hcs
          obtain ⟨M, d1, d2⟩ := nx (m1 := m) (st1 := []) (v6 := Y) rfl (fun _ _ _ => rfl) (fun j x hx => by cases hx) (by decide) (hg.2 y) hcs.symm
          exact ⟨M, oF c0 (oT c1 (oT (zcl.trans (decide_eq_true (by omega))) (oT ((zcni (y := 14) rfl).trans (by rw [decide_eq_false (by omega)]; rfl)) (oF ((zcni (y := 15) rfl).trans (by rw [decide_eq_true (by omega)]; rfl)) (two (fun _ => d1) (fun z => absurd y z)))))), d2⟩
        · rw [if_pos y] at hcs
          refine ⟨m.2, oF c0 (oT c1 (oT (zcl.trans (decide_eq_true (by omega))) (oT ((zcni (y := 14) rfl).trans (by rw [decide_eq_false (by omega)]; rfl)) (oF ((zcni (y := 15) rfl).trans (by rw [decide_eq_true (by omega)]; rfl)) (two (fun z => absurd z y) (fun _ => ?_)))))), fun _ _ _ => rfl⟩
          rw [hcs, g0]
      rw [if_neg k15] at hg hcs
      obtain ⟨hr, h20, st', e1, e2⟩ := hg
      rw [e1] at hcs
      have hcs : csum (wrl s t h) xs st' = csum (wrl s t h) (x :: xs) st := hcs.symm
      unfold sst at e1
      by_cases k20 : 20 ≤ x
      · -- a value
        have l64 := h20 k20
        have push : ∀ {v : Int64} {v6 : Int32}, st' = v :: st → ∃ M : Nat → Nat → Int64, D28_R_9_73 F r0 nn (D28_R_9_6 F r0 nn f) (Int32.ofNat t) (Int32.ofNat h) (Int32.ofNat st.length) (Int32.ofNat p) v6 v (Int32.ofNat st.length) m = some (csum (wrl s t h) (x :: xs) st, (m.1, M)) ∧ ∀ i j, i ≠ r0 + 2 → M i j = m.2 i j := fun {v v6} ev => by
          subst ev
          have el := nJ (n := st.length) (by omega)
          unfold D28_R_9_73
          rw [gxn el, (o1 (n := st.length) (by omega)).2.2, if_pos (gxb el l64)]
          exact nx (m1 := xul m (r0 + 2) st.length v) (st1 := v :: st) rfl (fun i j z => if_neg (fun y => z y.1)) (sC_up hs) (by rw [List.length_cons]; omega) e2 hcs
        have k1 : zcmp .lt Y 20 = false := zcl.trans (decide_eq_false (by omega))
        have k2 : zcmp .ge (Int32.ofNat st.length) 64 = false := zc.trans (decide_eq_false (by
          have e64 : (64 : Int32).toInt = 64 := rfl
          rw [nJ (by omega), e64]
          omega))
        by_cases k40 : 40 ≤ x
        · rw [if_pos k40] at e1
          have b := y32 Y
          have ev : (Y - 40 : Int32).toInt64 = Int64.ofInt (x - 40) := by
            apply Int64.toInt_inj.mp
            rw [Int32.toInt_toInt64, xs1 (by rw [l40]; omega) (by rw [l40]; omega), l40, X, Int64.toInt_ofInt]
            have hs : ((Int64.size : Nat) : Int) = 18446744073709551616 := rfl
            exact (Int.bmod_eq_of_le_mul_two (by omega) (by omega)).symm
          obtain ⟨M, d1, d2⟩ := push (v := (Y - 40 : Int32).toInt64) (v6 := Y) (by rw [ev]; exact (Option.some.inj e1).symm)
          exact ⟨M, oF c0 (oT c1 (oF k1 (oF k2 (oF (zcl.trans (decide_eq_false (by omega))) d1)))), d2⟩
        · rw [if_neg k40, if_pos k20] at e1
          have ei : Y - 20 = Int32.ofNat (x - 20).toNat := by
            apply Int32.toInt_inj.mp
            rw [xs1 (by rw [l0]; omega) (by rw [l0]; omega), l0, X, nJ (by omega)]
            omega
          obtain ⟨M, d1, d2⟩ := push (v := (wrd s t h (x - 20).toNat).toInt64) (v6 := Y) (Option.some.inj e1).symm
          exact ⟨M, oF c0 (oT c1 (oF k1 (oF k2 (oT (zcl.trans (decide_eq_true (by omega))) (by
            rw [ei]
            exact ob (c31 hF R I ht hh (by omega)) d1))))), d2⟩
      · rw [if_neg (by omega), if_neg k20] at e1
        have k1 : zcmp .lt Y 20 = true := zcl.trans (decide_eq_true (by omega))
        have k2 : zcmp .ne Y 14 = true := (zcni (y := 14) rfl).trans (by rw [decide_eq_false (by omega)]; rfl)
        have k3 : zcmp .ne Y 15 = true := (zcni (y := 15) rfl).trans (by rw [decide_eq_false (by omega)]; rfl)
        by_cases x3 : x = 3
        · rw [if_pos x3] at e1
          cases st with
          | nil => cases e1
          | cons v st =>
            have e1 : (1 - v) :: st = st' := Option.some.inj e1
            subst e1
            rw [List.length_cons] at h64
            obtain ⟨s1, s2⟩ := sC_tl hs
            have el := nJ (n := st.length) (by omega)
            have el1 := nJ (n := st.length + 1) (by omega)
            obtain ⟨M, d1, d2⟩ := nx (m1 := xul m (r0 + 2) st.length (1 - v)) (st1 := (1 - v) :: st) (v6 := Y) rfl (fun i j z => if_neg (fun y => z y.1)) (sC_up s1) (by rw [List.length_cons]; omega) e2 hcs
            refine ⟨M, oF c0 (oT c1 (oT k1 (oT k2 (oT k3 (oF ((zcni (y := 3) rfl).trans (by rw [decide_eq_true (by omega)]; rfl)) (oF (zcle.trans (decide_eq_false ?_)) ?_)))))), d2⟩
            · have e0 : (0 : Int32).toInt = 0 := rfl
              rw [List.length_cons, el1, e0]
              omega
            · rw [List.length_cons, (o1 (n := st.length) (by omega)).2.1, gxn el, s2, if_pos (gxb el (by omega)), if_pos (gxb el (by omega))]
              exact d1
        · rw [if_neg x3] at e1
          cases st with
          | nil => cases e1
          | cons v st =>
            cases st with
            | nil => cases e1
            | cons u st =>
              have e1 : sop x u v :: st = st' := Option.some.inj e1
              subst e1
              rw [List.length_cons, List.length_cons] at h64
              obtain ⟨s1, s2⟩ := sC_tl hs
              obtain ⟨s3, s4⟩ := sC_tl s1
              rw [List.length_cons] at s2
              have el := nJ (n := st.length) (by omega)
              have el1 := nJ (n := st.length + 1) (by omega)
              have el2 := nJ (n := st.length + 1 + 1) (by omega)
              obtain ⟨M, d1, d2⟩ := nx (m1 := xul m (r0 + 2) st.length (sop x u v)) (st1 := sop x u v :: st) (v6 := Y) rfl (fun i j z => if_neg (fun y => z y.1)) (sC_up s3) (by rw [List.length_cons]; omega) e2 hcs
              refine ⟨M, oF c0 (oT c1 (oT k1 (oT k2 (oT k3 (oT ((zcni (y := 3) rfl).trans (by rw [decide_eq_false (by omega)]; rfl)) ?_))))), d2⟩
              unfold D28_R_9_159
              refine oF (zcle.trans (decide_eq_false ?_)) ?_
              · have e0 : (1 : Int32).toInt = 1 := rfl
                rw [List.length_cons, List.length_cons, el2, e0]
                omega
              · rw [List.length_cons, List.length_cons, (o1 (n := st.length + 1) (by omega)).1, (o1 (n := st.length) (by omega)).2.1, gxn el, gxn el1, s2, s4, if_pos (gxb el (by omega)), if_pos (gxb el1 (by omega))]
                refine ob (c29 X (by omega) (by omega) x3) ?_
                rw [if_pos (gxb el (by omega))]
                exact d1
/-- sumFor -/
theorem c28 (hF : 500 ≤ F) {r0 nn : Nat} (hn : nn ≤ 400) (R : R32 s (m.1 10)) (I : vI s) {t h : Nat} (ht : (t : Int) < (s 2).toInt) (hh : h < 6) {xs : List Int} (hl : xs.length = nn) (hx : ∀ (j : Nat) (x : Int), xs[j]? = some x → (m.1 (r0 + 1) j).toInt = x) (hg : cgd (wrl s t h) xs []) : ∃ M : Nat → Nat → Int64, D28_R_9 F r0 nn (Int32.ofNat t) (Int32.ofNat h) m = some (csum (wrl s t h) xs [], (m.1, M)) ∧ ∀ i j, i ≠ r0 + 2 → M i j = m.2 i j := by
  unfold D28_R_9
  exact c28_6 hF hn I ht hh F (p := 0) (st := []) R (by omega) (by omega) (fun j x hj => by rw [Nat.zero_add]; exact hx j x hj) (fun j x hx => by cases hx) (by decide) hg
end PCRS
end
section
/-! The class's days by a rule. -/
/-- the house to which a tool is lent: the sums of the houses from h on -/
def lbh (s : Nat → Int32) (sm : Nat → Int64) (t : Nat) : Nat → Nat → Int32 × Int64 → Int32 × Int64
  | _, 0, a => a
  | h, n + 1, a => lbh s sm t (h + 1) n (if pcl s t h = true ∧ a.2.toInt < (sm h).toInt then (Int32.ofNat h, sm h) else a)
def ldt (s : Nat → Int32) (t : Nat) (b : Int32) : Nat → Int32 := if b = -1 then s else pld s t b.toInt.toNat
def lnd1 (sm : (Nat → Int32) → Nat → Nat → Int64) (s : Nat → Int32) (t : Nat) : Nat → Int32 := ldt s t (lbh s (sm s t) t 0 (s 0).toInt.toNat (-1, 0)).1
def lall (sm : (Nat → Int32) → Nat → Nat → Int64) : Nat → Nat → (Nat → Int32) → Nat → Int32
  | _, 0, s => s
  | t, n + 1, s => lall sm (t + 1) n (lnd1 sm s t)
def fwk : Nat → Nat → (Nat → Int32) → Nat → Int32
  | _, 0, s => s
  | w, n + 1, s => fwk (w + 1) n (if pcd s w = true then pwk s w else s)
def day1 (sm : (Nat → Int32) → Nat → Nat → Int64) (s : Nat → Int32) : Nat → Int32 := pdy (fwk 0 (s 3).toInt.toNat (lall sm 0 (s 2).toInt.toNat s))
def rdays (sm : (Nat → Int32) → Nat → Nat → Int64) : Nat → (Nat → Int32) → Nat → Int32
  | 0, s => s
  | n + 1, s => rdays sm n (day1 sm s)
section PDYS
variable {s : Nat → Int32} {sm : (Nat → Int32) → Nat → Nat → Int64}
/-- what a house that was found is -/
def okb (s : Nat → Int32) (t : Nat) (b : Int32) : Prop := b = -1 ∨ ∃ k : Nat, b = Int32.ofNat k ∧ (k : Int) < (s 0).toInt ∧ pcl s t k = true
theorem lbh_ok {f : Nat → Int64} {t : Nat} : ∀ (n h : Nat) {a : Int32 × Int64}, ((h + n : Nat) : Int) ≤ (s 0).toInt → okb s t a.1 → okb s t (lbh s f t h n a).1
  | 0, _, _, _, k => k
  | n + 1, h, a, l, k => by
    show okb s t (lbh s f t (h + 1) n (if pcl s t h = true ∧ a.2.toInt < (f h).toInt then (Int32.ofNat h, f h) else a)).1
    refine lbh_ok n (h + 1) (by omega) ?_
    split
    · next z => exact Or.inr ⟨h, rfl, by omega, z.1⟩
    · exact k
theorem ldt_k {t : Nat} {b : Int32} {j : Nat} (hj : j < 10) : ldt s t b j = s j := by
  unfold ldt
  split
  · rfl
  · rw [pld_o (by omega) (by omega), pth_o (by omega)]
theorem ldt_I (I : vI s) {t : Nat} {b : Int32} (ht : (t : Int) < (s 2).toInt) (h : okb s t b) : vI (ldt s t b) := by
  have n6 := I_n6 I
  unfold ldt
  rcases h with h | ⟨k, rfl, h1, h2⟩
  · rw [if_pos h]
    exact I
  · have ek := nJ (n := k) (by omega)
    rw [if_neg (fun z => by
      have z := congrArg Int32.toInt z
      rw [ek] at z
      have e1 : (-1 : Int32).toInt = -1 := rfl
      omega), ek, Int.toNat_natCast]
    exact I_ld I ht h1 h2
theorem lnd1_ok {t : Nat} (I : vI s) : okb s t (lbh s (sm s t) t 0 (s 0).toInt.toNat (-1, 0)).1 := lbh_ok _ 0 (by have := I_n0 I; omega) (Or.inl rfl)
theorem lall_k : ∀ (n : Nat) {s : Nat → Int32} {t j : Nat}, j < 10 → lall sm t n s j = s j
  | 0, _, _, _, _ => rfl
  | n + 1, s, t, j, hj => by
    show lall sm (t + 1) n (lnd1 sm s t) j = s j
    rw [lall_k n hj]
    exact ldt_k hj
theorem lall_I : ∀ (n : Nat) {s : Nat → Int32} {t : Nat}, vI s → ((t + n : Nat) : Int) ≤ (s 2).toInt → vI (lall sm t n s)
  | 0, _, _, I, _ => I
  | n + 1, s, t, I, l => by
    show vI (lall sm (t + 1) n (lnd1 sm s t))
    refine lall_I n (ldt_I I (by omega) (lnd1_ok I)) ?_
    show _ ≤ (ldt s t _ 2).toInt
    rw [ldt_k (by decide)]
    omega
theorem pwk_k {w j : Nat} (hj : j < 5) : pwk s w j = s j := by
  unfold pwk
  rw [cup_o (by omega), cup_o (by omega)]
theorem fwk_k : ∀ (n : Nat) {s : Nat → Int32} {w j : Nat}, j < 5 → fwk w n s j = s j
  | 0, _, _, _, _ => rfl
  | n + 1, s, w, j, hj => by
    show fwk (w + 1) n (if pcd s w = true then pwk s w else s) j = s j
    rw [fwk_k n hj]
    split
    · exact pwk_k hj
    · rfl
theorem fwk_I : ∀ (n : Nat) {s : Nat → Int32} {w : Nat}, vI s → ((w + n : Nat) : Int) ≤ (s 3).toInt → vI (fwk w n s)
  | 0, _, _, I, _ => I
  | n + 1, s, w, I, l => by
    show vI (fwk (w + 1) n (if pcd s w = true then pwk s w else s))
    by_cases z : pcd s w = true
    · rw [if_pos z]
      refine fwk_I n (I_wk I (by omega)) ?_
      rw [pwk_k (by decide)]
      omega
    · rw [if_neg z]
      exact fwk_I n I (by omega)
theorem day1_I (I : vI s) (d9 : (s 4).toInt < 2000) : vI (day1 sm s) := by
  have n2 := I_nt I
  have n3 := I_nw I
  have J := lall_I (sm := sm) (s 2).toInt.toNat (t := 0) I (by omega)
  have K := fwk_I (s 3).toInt.toNat (w := 0) J (by rw [lall_k _ (by decide)]; omega)
  exact I_dy K (by rw [fwk_k _ (by decide), lall_k _ (by decide)]; exact d9)
theorem day1_4 : day1 sm s 4 = s 4 + 1 := by
  unfold day1
  rw [pdy_4, fwk_k _ (by decide), lall_k _ (by decide)]
theorem day1_0 (I : vI s) : day1 sm s 0 = s 0 := by
  have n2 := I_nt I
  have n3 := I_nw I
  have J := lall_I (sm := sm) (s 2).toInt.toNat (t := 0) I (by omega)
  have K := fwk_I (s 3).toInt.toNat (w := 0) J (by rw [lall_k _ (by decide)]; omega)
  unfold day1
  rw [pdy_o K (fun i hi => by omega) (by decide), fwk_k _ (by decide), lall_k _ (by decide)]
theorem day1_d (I : vI s) (d9 : (s 4).toInt < 2000) : (day1 sm s 4).toInt = (s 4).toInt + 1 := by
  have d0 := I_day I
  rw [day1_4]
  exact (xa1 (by show _ ≤ _ + (1 : Int); omega) (by show _ + (1 : Int) ≤ _; omega)).trans rfl
end PDYS
/-- the class's row of cells and a stack alone have changed -/
def kf (r0 : Nat) (m m' : xS) : Prop := (∀ i, i ≠ 10 → m'.1 i = m.1 i) ∧ ∀ i j, i ≠ r0 + 2 → m'.2 i j = m.2 i j
theorem kf_r (r0 : Nat) (m : xS) : kf r0 m m := ⟨fun _ _ => rfl, fun _ _ _ => rfl⟩
theorem kf_t {r0 : Nat} {a b c : xS} (h1 : kf r0 a b) (h2 : kf r0 b c) : kf r0 a c := ⟨fun i h => (h2.1 i h).trans (h1.1 i h), fun i j h => (h2.2 i j h).trans (h1.2 i j h)⟩
theorem kf_x {r0 : Nat} {m : xS} {c : Nat → Int32} : kf r0 m (xr m 10 c) := ⟨fun _ h => xr_o h, fun _ _ _ => rfl⟩
/-- a rule's steps stand behind its object -/
def stp (m : xS) (r0 : Nat) (xs : List Int) : Prop := ∀ (j : Nat) (x : Int), xs[j]? = some x → (m.1 (r0 + 1) j).toInt = x
theorem stp_f {r0 : Nat} {m m' : xS} {xs : List Int} (h88 : 88 ≤ r0) (k : kf r0 m m') (h : stp m r0 xs) : stp m' r0 xs := fun j x hj => by
  rw [k.1 (r0 + 1) (by omega)]
  exact h j x hj
/-- the sums of the class -/
def smC (xs : List Int) : (Nat → Int32) → Nat → Nat → Int64 := fun s t h => csum (wrl s t h) xs []
section PCRN
variable {s : Nat → Int32} {m : xS} {F : Nat}
theorem c27_18 (hF : 500 ≤ F) {r0 nn : Nat} (h88 : 88 ≤ r0) (hn : nn ≤ 400) {xs : List Int} (hl : xs.length = nn) (G : ∀ w, cgd w xs []) (I : vI s) {t : Nat} (ht : (t : Int) < (s 2).toInt) {g2 : Int32 → xS → Option (Unit × xS)} : ∀ (f : Nat) {m : xS} {h : Nat} {a : Int32 × Int64}, R32 s (m.1 10) → stp m r0 xs → 0 ≤ a.2.toInt → (h : Int) ≤ (s 0).toInt → 7 - h < f → okb s t a.1 → ∃ m', D27_R_9_18 F r0 nn g2 f (Int32.ofNat t) a.1 a.2 (Int32.ofNat h) m = g2 (Int32.ofNat (t + 1)) m' ∧ R32 (ldt s t (lbh s (smC xs s t) t h ((s 0).toInt.toNat - h) a).1) (m'.1 10) ∧ kf r0 m m' := by
  have n6 := I_n6 I
  have t6 : t < 6 := by have := I_nt I; omega
  intro f
  induction f with
  | zero => intro m h a _ _ _ _ l; omega
  | succ f ih =>
    intro m h a R S a0 hh l ha
    have eh := nJ (n := h) (by omega)
    unfold D27_R_9_18
    by_cases q : (s 0).toInt ≤ (h : Int)
    · rw [show (s 0).toInt.toNat - h = 0 by omega]
      show ∃ m' : xS, _ ∧ R32 (ldt s t a.1) (m'.1 10) ∧ _
      have g : zcmp .ge (Int32.ofNat h) (s 0) = true := zc.trans (decide_eq_true (by omega))
      rcases ha with e | ⟨k, e, k1, k2⟩
      · refine ⟨m, ob (c77_9 R) (oT g (oT (zce.trans (beq_iff_eq.mpr e)) ?_)), ?_, kf_r r0 m⟩
        · unfold D27_R_9_83
          rw [(o1 (n := t) (by omega)).2.2]
        · unfold ldt
          rw [if_pos e]
          exact R
      · have ek := nJ (n := k) (by omega)
        have ne : ¬ a.1 = -1 := fun z => by
          have z := congrArg Int32.toInt (e.symm.trans z)
          rw [ek] at z
          have e1 : (-1 : Int32).toInt = -1 := rfl
          omega
        obtain ⟨c', z1, z2⟩ := a102_9 (F := F) R I (t := t) (h := k) (v1 := Int32.ofNat t) (v2 := a.1) rfl e ht (by omega)
        refine ⟨xr m 10 c', ob (c77_9 R) (oT g (oF (zce.trans (beq_eq_false_iff_ne.mpr ne)) (ob z1 ?_))), ?_, kf_x⟩
        · unfold D27_R_9_83
          rw [(o1 (n := t) (by omega)).2.2]
        · unfold ldt
          rw [if_neg ne, e, ek, Int.toNat_natCast, xr_s]
          exact z2
    · have h6 : h < 6 := by omega
      rw [show (s 0).toInt.toNat - h = ((s 0).toInt.toNat - (h + 1)) + 1 by omega]
      show ∃ m' : xS, _ ∧ R32 (ldt s t (lbh s (smC xs s t) t (h + 1) ((s 0).toInt.toNat - (h + 1)) (if pcl s t h = true ∧ a.2.toInt < (smC xs s t h).toInt then (Int32.ofNat h, smC xs s t h) else a)).1) (m'.1 10) ∧ _
      have g : zcmp .ge (Int32.ofNat h) (s 0) = false := zc.trans (decide_eq_false (by omega))
      have nx : ∀ {m1 : xS} {b : Int32 × Int64} {v7 : Int64}, kf r0 m m1 → R32 s (m1.1 10) → 0 ≤ b.2.toInt → okb s t b.1 → ∃ m', D27_R_9_66 F r0 nn g2 (D27_R_9_18 F r0 nn g2 f) (Int32.ofNat t) b.1 b.2 (Int32.ofNat h) v7 m1 = g2 (Int32.ofNat (t + 1)) m' ∧ R32 (ldt s t (lbh s (smC xs s t) t (h + 1) ((s 0).toInt.toNat - (h + 1)) b).1) (m'.1 10) ∧ kf r0 m m' := fun {m1 b v7} k R1 b0 hb => by
        obtain ⟨m', d1, d2, d3⟩ := ih (m := m1) (h := h + 1) (a := b) R1 (stp_f h88 k S) b0 (by omega) (by omega) hb
        refine ⟨m', ?_, d2, kf_t k d3⟩
        unfold D27_R_9_66
        rw [(o1 (n := h) (by omega)).2.2]
        exact d1
      have l0 : (0 : Int64).toInt = 0 := rfl
      by_cases c : pcl s t h = true
      · obtain ⟨M, z1, z2⟩ := c28 (F := F) hF (r0 := r0) hn R I ht h6 hl S (G _)
        have km : kf r0 m (m.1, M) := ⟨fun _ _ => rfl, z2⟩
        have g5 := (lgS (smC xs s t h) a.2).2.2.2.2
        by_cases d : a.2.toInt < (smC xs s t h).toInt
        · rw [if_pos ⟨c, d⟩]
          obtain ⟨m', d1, d2, d3⟩ := nx (m1 := (m.1, M)) (b := (Int32.ofNat h, smC xs s t h)) (v7 := smC xs s t h) km R (by show 0 ≤ (smC xs s t h).toInt; omega) (Or.inr ⟨h, rfl, by omega, c⟩)
          refine ⟨m', ob (c77_9 R) (oF g (ob (c101u R I rfl rfl ht h6) (oF (pB1.trans (by rw [c]; rfl)) (ob z1 ?_)))), d2, d3⟩
          unfold D27_R_9_49
          exact oF (g5.trans (decide_eq_false (by omega))) d1
        · rw [if_neg (fun z => d z.2)]
          obtain ⟨m', d1, d2, d3⟩ := nx (m1 := (m.1, M)) (b := a) (v7 := smC xs s t h) km R a0 ha
          refine ⟨m', ob (c77_9 R) (oF g (ob (c101u R I rfl rfl ht h6) (oF (pB1.trans (by rw [c]; rfl)) (ob z1 ?_)))), d2, d3⟩
          unfold D27_R_9_49
          exact oT (g5.trans (decide_eq_true (by omega))) d1
      · rw [if_neg (fun z => c z.1)]
        have c' : pcl s t h = false := by simpa using c
        have g5 := (lgS 0 a.2).2.2.2.2
        obtain ⟨m', d1, d2, d3⟩ := nx (m1 := m) (b := a) (v7 := 0) (kf_r r0 m) R a0 ha
        refine ⟨m', ob (c77_9 R) (oF g (ob (c101u R I rfl rfl ht h6) (oT (pB1.trans (by rw [c']; rfl)) ?_))), d2, d3⟩
        unfold D27_R_9_49
        exact oT (g5.trans (decide_eq_true (by rw [l0]; exact a0))) d1
theorem c27_2 (hF : 500 ≤ F) {r0 nn : Nat} (h88 : 88 ≤ r0) (hn : nn ≤ 400) {xs : List Int} (hl : xs.length = nn) (G : ∀ w, cgd w xs []) : ∀ (f : Nat) {s : Nat → Int32} {m : xS} {t : Nat}, vI s → R32 s (m.1 10) → stp m r0 xs → (t : Int) ≤ (s 2).toInt → 7 - t < f → ∃ m', D27_R_9_2 F r0 nn f (Int32.ofNat t) m = some ((), m') ∧ R32 (lall (smC xs) t ((s 2).toInt.toNat - t) s) (m'.1 10) ∧ kf r0 m m' := by
  intro f
  induction f with
  | zero => intro s m t _ _ _ _ l; omega
  | succ f ih =>
    intro s m t I R S ht l
    have n2 := I_nt I
    have n6 := I_n6 I
    have et := nJ (n := t) (by omega)
    unfold D27_R_9_2
    by_cases q : (s 2).toInt ≤ (t : Int)
    · rw [show (s 2).toInt.toNat - t = 0 by omega]
      have g : zcmp .ge (Int32.ofNat t) (s 2) = true := zc.trans (decide_eq_true (by omega))
      exact ⟨m, ob (c79_9 R) (oT g rfl), R, kf_r r0 m⟩
    · rw [show (s 2).toInt.toNat - t = ((s 2).toInt.toNat - (t + 1)) + 1 by omega]
      have n0 := I_n0 I
      obtain ⟨m1, z1, z2, z3⟩ := c27_18 (F := F) hF h88 hn hl G I (t := t) (by omega) (g2 := D27_R_9_2 F r0 nn f) F (m := m) (h := 0) (a := (-1, 0)) R S (Int.le_refl _) (by omega) (by omega) (Or.inl rfl)
      rw [Nat.sub_zero] at z2
      have J : vI (lnd1 (smC xs) s t) := ldt_I I (by omega) (lnd1_ok I)
      have e2 : lnd1 (smC xs) s t 2 = s 2 := ldt_k (by decide)
      obtain ⟨m', d1, d2, d3⟩ := ih (s := lnd1 (smC xs) s t) (m := m1) (t := t + 1) J z2 (stp_f h88 z3 S) (by rw [e2]; omega) (by omega)
      rw [e2] at d2
      have g : zcmp .ge (Int32.ofNat t) (s 2) = false := zc.trans (decide_eq_false (by omega))
      exact ⟨m', ob (c79_9 R) (oF g (z1.trans d1)), d2, kf_t z3 d3⟩
/-- lendAll -/
theorem c27 (hF : 500 ≤ F) {r0 nn : Nat} (h88 : 88 ≤ r0) (hn : nn ≤ 400) {xs : List Int} (hl : xs.length = nn) (G : ∀ w, cgd w xs []) (I : vI s) (R : R32 s (m.1 10)) (S : stp m r0 xs) : ∃ m', D27_R_9 F r0 nn m = some ((), m') ∧ R32 (lall (smC xs) 0 (s 2).toInt.toNat s) (m'.1 10) ∧ kf r0 m m' := by
  have n2 := I_nt I
  have z := c27_2 (F := F) hF h88 hn hl G F (s := s) (m := m) (t := 0) I R S (by omega) (by omega)
  rw [Nat.sub_zero] at z
  unfold D27_R_9
  exact z
/-- finishWorks -/
theorem c109_2 (hF : 500 ≤ F) : ∀ (f : Nat) {s : Nat → Int32} {m : xS} {w : Nat}, vI s → R32 s (m.1 10) → (w : Int) ≤ (s 3).toInt → 7 - w < f → ∃ c', D109_9_2 F f (Int32.ofNat w) m = some ((), xr m 10 c') ∧ R32 (fwk w ((s 3).toInt.toNat - w) s) c' := by
  intro f
  induction f with
  | zero => intro s m w _ _ _ l; omega
  | succ f ih =>
    intro s m w I R hw l
    have n3 := I_nw I
    have ew := nJ (n := w) (by omega)
    unfold D109_9_2
    by_cases q : (s 3).toInt ≤ (w : Int)
    · rw [show (s 3).toInt.toNat - w = 0 by omega]
      have g : zcmp .ge (Int32.ofNat w) (s 3) = true := zc.trans (decide_eq_true (by omega))
      exact ⟨m.1 10, ob (c80_9 R) (oT g (by rw [xr_id])), R⟩
    · rw [show (s 3).toInt.toNat - w = ((s 3).toInt.toNat - (w + 1)) + 1 by omega]
      have w3 : (w : Int) < (s 3).toInt := by omega
      have g : zcmp .ge (Int32.ofNat w) (s 3) = false := zc.trans (decide_eq_false (by omega))
      show ∃ c', _ ∧ R32 (fwk (w + 1) ((s 3).toInt.toNat - (w + 1)) (if pcd s w = true then pwk s w else s)) c'
      by_cases c : pcd s w = true
      · rw [if_pos c]
        obtain ⟨c1, z1, z2⟩ := a108_9 (F := F) R (w := w) (v1 := Int32.ofNat w) rfl (by omega)
        have e3 : pwk s w 3 = s 3 := pwk_k (by decide)
        obtain ⟨c', d1, d2⟩ := ih (s := pwk s w) (m := xr m 10 c1) (w := w + 1) (I_wk I w3) (by rw [xr_s]; exact z2) (by rw [e3]; omega) (by omega)
        rw [e3] at d2
        refine ⟨c', ob (c80_9 R) (oF g (ob (c107_9 hF R I rfl w3) (oF (pB1.trans (by rw [c]; rfl)) (ob z1 ?_)))), d2⟩
        unfold D109_9_24
        rw [(o1 (n := w) (by omega)).2.2, d1, xr_xr]
      · rw [if_neg c]
        have c0 : pcd s w = false := by simpa using c
        obtain ⟨c', d1, d2⟩ := ih (s := s) (m := m) (w := w + 1) I R (by omega) (by omega)
        refine ⟨c', ob (c80_9 R) (oF g (ob (c107_9 hF R I rfl w3) (oT (pB1.trans (by rw [c0]; rfl)) ?_))), d2⟩
        unfold D109_9_24
        rw [(o1 (n := w) (by omega)).2.2]
        exact d1
theorem c109 (hF : 500 ≤ F) (I : vI s) (R : R32 s (m.1 10)) : ∃ c', D109_9 F m = some ((), xr m 10 c') ∧ R32 (fwk 0 (s 3).toInt.toNat s) c' := by
  have n3 := I_nw I
  have z := c109_2 (F := F) hF F (s := s) (m := m) (w := 0) I R (by omega) (by omega)
  rw [Nat.sub_zero] at z
  unfold D109_9
  exact z
/-- run: its loop -/
theorem c139_57 (hF : 500 ≤ F) {r0 nn : Nat} (h88 : 88 ≤ r0) (hn : nn ≤ 400) {xs : List Int} (hl : xs.length = nn) (G : ∀ w, cgd w xs []) {ru v2 v3 : Int32} {n : Nat} (h2 : v2 = Int32.ofNat n) (n60 : n ≤ 60) : ∀ (f : Nat) {s : Nat → Int32} {m : xS} {i : Nat}, vI s → R32 s (m.1 10) → stp m r0 xs → (s 4).toInt + ((n - i : Nat) : Int) ≤ 999 → i ≤ n → n - i < f → ∃ m', D139_0_A_57 F ru true r0 nn f ru v2 v3 (Int32.ofNat i) m = some (rdays (smC xs) (n - i) s 5 - v3, xu m' 14 2 0) ∧ R32 (rdays (smC xs) (n - i) s) (m'.1 10) ∧ vI (rdays (smC xs) (n - i) s) ∧ (rdays (smC xs) (n - i) s 4).toInt = (s 4).toInt + ((n - i : Nat) : Int) ∧ kf r0 m m' := by
  subst h2
  have en := nJ (n := n) (by omega)
  intro f
  induction f with
  | zero => intro s m i _ _ _ _ _ l; omega
  | succ f ih =>
    intro s m i I R S hd hi l
    have ei := nJ (n := i) (by omega)
    unfold D139_0_A_57
    by_cases q : n ≤ i
    · rw [show n - i = 0 by omega]
      refine ⟨m, oT (zc.trans (decide_eq_true (by omega))) (ob (a := ()) (m := xu m 14 2 0) rfl (ob (c82_9 (s := s) ?_) rfl)), R, I, by show (s 4).toInt = _; omega, kf_r r0 m⟩
      rw [show (xu m 14 2 0).1 10 = m.1 10 from xu_row (by decide)]
      exact R
    · rw [show n - i = (n - (i + 1)) + 1 by omega]
      have d0 := I_day I
      have n2 := I_nt I
      have n3 := I_nw I
      obtain ⟨m1, z1, z2, z3⟩ := c27 (F := F) hF h88 hn hl G I R S
      have J := lall_I (sm := smC xs) (s 2).toInt.toNat (t := 0) I (by omega)
      have e3 : lall (smC xs) 0 (s 2).toInt.toNat s 3 = s 3 := lall_k _ (by decide)
      obtain ⟨c2, y1, y2⟩ := c109 (F := F) (m := m1) hF J z2
      rw [e3] at y2
      have K := fwk_I (s 3).toInt.toNat (w := 0) J (by rw [e3]; omega)
      have e4 : fwk 0 (s 3).toInt.toNat (lall (smC xs) 0 (s 2).toInt.toNat s) 4 = s 4 := by rw [fwk_k _ (by decide), lall_k _ (by decide)]
      obtain ⟨c3, x1, x2⟩ := a112_9 (F := F) (m := xr m1 10 c2) hF (by rw [xr_s]; exact y2) K (by rw [e4]; omega)
      have dd := day1_d (sm := smC xs) I (by omega)
      have k3 : kf r0 m (xr (xr m1 10 c2) 10 c3) := kf_t z3 (kf_t kf_x kf_x)
      obtain ⟨m', w1, w2, w3, w4, w5⟩ := ih (s := day1 (smC xs) s) (m := xr (xr m1 10 c2) 10 c3) (i := i + 1) (day1_I I (by omega)) (by rw [xr_s]; exact x2) (stp_f h88 k3 S) (by rw [dd]; omega) (by omega) (by omega)
      refine ⟨m', oF (zc.trans (decide_eq_false (by omega))) (oT (by rw [beq_self_eq_true]; rfl) (ob z1 (ob y1 (ob x1 ?_)))), w2, w3, ?_, kf_t k3 w5⟩
      · rw [(o1 (n := i) (by omega)).2.2]
        exact w1
      · show (rdays (smC xs) (n - (i + 1)) (day1 (smC xs) s) 4).toInt = _
        rw [w4, dd]
        omega
end PCRN
end
section
/-! The reference's days by a rule. -/
def wrx (s : Nat → Int32) (t h : Nat) (need pay : Int32) : Nat → Int32
  | 9 => need
  | 10 => pay
  | i => wrd s t h i
/-- what the reference's words alone may change -/
def kw (m m' : xS) : Prop := m'.1 = m.1 ∧ ∀ i j, i ≠ 79 → m'.2 i j = m.2 i j
def kg (m m' : xS) : Prop := (∀ i j, ¬ (i = 70 ∧ j = 20) → m'.1 i j = m.1 i j) ∧ ∀ i j, i ≠ 78 → i ≠ 79 → m'.2 i j = m.2 i j
theorem kg_r (m : xS) : kg m m := ⟨fun _ _ _ => rfl, fun _ _ _ _ => rfl⟩
theorem kg_t {a b c : xS} (h1 : kg a b) (h2 : kg b c) : kg a c := ⟨fun i j h => (h2.1 i j h).trans (h1.1 i j h), fun i j h k => (h2.2 i j h k).trans (h1.2 i j h k)⟩
theorem kg_w {a b : xS} (h : kw a b) : kg a b := ⟨fun i j _ => by rw [h.1], fun i j _ k => h.2 i j k⟩
theorem kg_l {a b : xS} (h : xfl a b) : kg a b := ⟨h.2, fun i j k _ => h.1 i j k⟩
theorem erun_w {w w' : Nat → Int64} (h : ∀ i, i ≤ 12 → w i = w' i) : ∀ {S : List Int32} {st : List Int64} {D : Nat}, ldp S st.length = some D → erun w S st = erun w' S st
  | [], _, _, _ => rfl
  | c :: S, st, D, l => by
    have l : (zst c st.length).bind (ldp S) = some D := l
    obtain ⟨k, h1, h2⟩ := Option.bind_eq_some_iff.mp l
    obtain ⟨⟨st1, e1, e2⟩, -, -, e4⟩ := zst_e (w := w) h1
    have e : est w c st = est w' c st := by
      unfold est
      by_cases k1 : c.toInt % 16 = 1
      · have b := e4 k1
        rw [if_neg (show ¬ c.toInt % 16 = 0 by omega), if_pos k1, if_neg (show ¬ c.toInt % 16 = 0 by omega), if_pos k1, h _ (by omega)]
      · by_cases k0 : c.toInt % 16 = 0
        · rw [if_pos k0, if_pos k0]
        · rw [if_neg k0, if_neg k1, if_neg k0, if_neg k1]
    show (est w c st).bind (erun w S) = (est w' c st).bind (erun w' S)
    rw [← e, e1]
    exact erun_w h (by rw [e2]; exact h2)
theorem ev_w {w w' : Nat → Int64} (h : ∀ i, i ≤ 12 → w i = w' i) {S : List Int32} (hw : cwf S) : ev w S = ev w' S := by
  unfold ev
  rw [erun_w h (st := []) hw.1]
theorem sumE_w {w w' : Nat → Int64} (h : ∀ i, i ≤ 12 → w i = w' i) : ∀ {cs : cLs}, (∀ q ∈ cs, cwf q.1 ∧ ∀ T, q.2 = some T → cwf T) → sumE w cs = sumE w' cs
  | [], _ => rfl
  | (S, none) :: cs, k => ev_w h (k _ (List.mem_cons_self ..)).1
  | (S, some T) :: cs, k => by
    have k0 := k _ (List.mem_cons_self ..)
    show (if ev w T = 1 then ev w S else sumE w cs) = (if ev w' T = 1 then ev w' S else sumE w' cs)
    rw [ev_w h k0.1, ev_w h (k0.2 T rfl), sumE_w h (fun q hq => k q (List.mem_cons_of_mem _ hq))]
theorem cAll_wf {m : xS} {r : Nat} {cs : cLs} (h : cAll m r cs) : ∀ q ∈ cs, cwf q.1 ∧ ∀ T, q.2 = some T → cwf T := fun q hq => by
  obtain ⟨i, hi⟩ := List.getElem?_of_mem hq
  obtain ⟨⟨a, -, -, -, k1⟩, k2⟩ := h.2.2 i q hi
  refine ⟨k1, fun T e => ?_⟩
  rw [e] at k2
  obtain ⟨b, -, -, -, k3⟩ := k2
  exact k3
theorem cAll_f {m m' : xS} {r : Nat} {cs : cLs} (h2 : m'.1 72 = m.1 72) (h4 : m'.1 74 = m.1 74) (h5 : m'.1 75 = m.1 75) (h : cAll m r cs) : cAll m' r cs := by
  unfold cAll kAt cAt at h ⊢
  rw [h2, h4, h5]
  exact h
/-- the sums of the reference -/
def smR (cs : cLs) : (Nat → Int32) → Nat → Nat → Int64 := fun s t h => sumE (wrl s t h) cs
section PRRN
variable {s : Nat → Int32} {m : xS} {F : Nat}
theorem r243_16 {t h : Nat} (I : vI (m.1 80)) (ht : (t : Int) < (m.1 80 2).toInt) (hh : h < 6) : ∀ (f : Nat) {k : Nat} {a b : Int32}, (k : Int) ≤ (m.1 80 3).toInt → 7 - k < f → ∃ m', D243_16 F f (Int32.ofNat t) (Int32.ofNat h) (m.1 80 (10 + 6 * t + 3)) a b (Int32.ofNat k) m = some ((), m') ∧ kw m m' ∧ ∀ i, i ≤ 12 → m'.2 79 i = (wrx (m.1 80) t h (wnt (m.1 80) t h 2 true k ((m.1 80 3).toInt.toNat - k) a) (wnt (m.1 80) t h 3 false k ((m.1 80 3).toInt.toNat - k) b) i).toInt64 := by
  have t6 : t < 6 := by have := I_nt I; omega
  have it := I.2.1 t ht
  have n6 := I_n6 I
  have n3 := I_nw I
  have eh : m.1 80 (10 + 6 * t + 3) = Int32.ofNat (m.1 80 (10 + 6 * t + 3)).toInt.toNat := i32n (by omega)
  have lh : (m.1 80 (10 + 6 * t + 3)).toInt.toNat < 6 := by omega
  intro f
  induction f with
  | zero => intro k a b _ l; omega
  | succ f ih =>
    intro k a b hk l
    have ek := nJ (n := k) (by omega)
    unfold D243_16
    by_cases q : (m.1 80 3).toInt ≤ (k : Int)
    · rw [show (m.1 80 3).toInt.toNat - k = 0 by omega]
      show ∃ m' : xS, _ ∧ _ ∧ ∀ i, i ≤ 12 → m'.2 79 i = (wrx (m.1 80) t h a b i).toInt64
      have fin : ∀ {x : Int64}, x = (if ptr (m.1 80) h (m.1 80 (10 + 6 * t + 3)).toInt.toNat = true then (1 : Int32) else 0).toInt64 → ∀ i, i ≤ 12 → (xul (xul (xul (xul (xul (xul (xul (xul (xul (xul (xul (xul (xul m 79 0 (Int32.ofNat t).toInt64) 79 1 (m.1 80 (10 + 6 * t + 1)).toInt64) 79 2 (m.1 80 (10 + 6 * t + 0)).toInt64) 79 3 (m.1 80 (10 + 6 * t + 3)).toInt64) 79 4 (Int32.ofNat h).toInt64) 79 5 (m.1 80 (10 + 6 * t + 4)).toInt64) 79 6 (psh (m.1 80) t 1).toInt64) 79 7 (m.1 80 (10 + 6 * t + 5)).toInt64) 79 8 (m.1 80 4).toInt64) 79 9 a.toInt64) 79 10 b.toInt64) 79 11 (m.1 80 (82 + 6 * h + (m.1 80 (10 + 6 * t + 3)).toInt.toNat)).toInt64) 79 12 x).2 79 i = (wrx (m.1 80) t h a b i).toInt64 := fun {x} hx i hi => by
        subst hx
        match i, hi with
        | 0, _ => rfl
        | 1, _ => rfl
        | 2, _ => rfl
        | 3, _ => rfl
        | 4, _ => rfl
        | 5, _ => rfl
        | 6, _ => rfl
        | 7, _ => rfl
        | 8, _ => rfl
        | 9, _ => rfl
        | 10, _ => rfl
        | 11, _ => rfl
        | 12, _ => rfl
        | i + 13, z => omega
      have fr : ∀ {x : Int64}, kw m (xul (xul (xul (xul (xul (xul (xul (xul (xul (xul (xul (xul (xul m 79 0 (Int32.ofNat t).toInt64) 79 1 (m.1 80 (10 + 6 * t + 1)).toInt64) 79 2 (m.1 80 (10 + 6 * t + 0)).toInt64) 79 3 (m.1 80 (10 + 6 * t + 3)).toInt64) 79 4 (Int32.ofNat h).toInt64) 79 5 (m.1 80 (10 + 6 * t + 4)).toInt64) 79 6 (psh (m.1 80) t 1).toInt64) 79 7 (m.1 80 (10 + 6 * t + 5)).toInt64) 79 8 (m.1 80 4).toInt64) 79 9 a.toInt64) 79 10 b.toInt64) 79 11 (m.1 80 (82 + 6 * h + (m.1 80 (10 + 6 * t + 3)).toInt.toNat)).toInt64) 79 12 x) := fun {x} => ⟨rfl, fun i j z => by
        have g : ∀ {n : xS} {c : Nat} {v : Int64}, (xul n 79 c v).2 i j = n.2 i j := fun {n c v} => if_neg (fun y => z y.1)
        rw [g, g, g, g, g, g, g, g, g, g, g, g, g]⟩
      have g : zcmp .ge (Int32.ofNat k) (m.1 80 3) = true := zc.trans (decide_eq_true (by omega))
      by_cases z : ptr (m.1 80) h (m.1 80 (10 + 6 * t + 3)).toInt.toNat = true
      · exact ⟨_, oT g (ob (r208 (w := 1) rfl rfl t6 (by decide)) (ob (r208 (w := 0) rfl rfl t6 (by decide)) (ob (r208 (w := 4) rfl rfl t6 (by decide)) (ob (r214 rfl t6) (ob (r208 (w := 5) rfl rfl t6 (by decide)) (ob (r211 rfl eh hh lh) (ob (r210 rfl eh hh lh) (oF (pB1.trans (by show (!ptr (m.1 80) h _) = false; rw [z]; rfl)) rfl)))))))), fr, fin (by rw [if_pos z]; rfl)⟩
      · have z0 : ptr (m.1 80) h (m.1 80 (10 + 6 * t + 3)).toInt.toNat = false := by simpa using z
        exact ⟨_, oT g (ob (r208 (w := 1) rfl rfl t6 (by decide)) (ob (r208 (w := 0) rfl rfl t6 (by decide)) (ob (r208 (w := 4) rfl rfl t6 (by decide)) (ob (r214 rfl t6) (ob (r208 (w := 5) rfl rfl t6 (by decide)) (ob (r211 rfl eh hh lh) (ob (r210 rfl eh hh lh) (oT (pB1.trans (by show (!ptr (m.1 80) h _) = true; rw [z0]; rfl)) rfl)))))))), fr, fin (by rw [if_neg z]; rfl)⟩
    · have k6 : k < 6 := by omega
      rw [show (m.1 80 3).toInt.toNat - k = ((m.1 80 3).toInt.toNat - (k + 1)) + 1 by omega]
      have g : zcmp .ge (Int32.ofNat k) (m.1 80 3) = false := zc.trans (decide_eq_false (by omega))
      have nx : ∀ {a' b' : Int32}, ∃ m', D243_104 F (D243_16 F f) (Int32.ofNat t) (Int32.ofNat h) (m.1 80 (10 + 6 * t + 3)) a' b' (Int32.ofNat k) m = some ((), m') ∧ kw m m' ∧ ∀ i, i ≤ 12 → m'.2 79 i = (wrx (m.1 80) t h (wnt (m.1 80) t h 2 true (k + 1) ((m.1 80 3).toInt.toNat - (k + 1)) a') (wnt (m.1 80) t h 3 false (k + 1) ((m.1 80 3).toInt.toNat - (k + 1)) b') i).toInt64 := fun {a' b'} => by
        obtain ⟨m', d1, d2⟩ := ih (k := k + 1) (a := a') (b := b') (by omega) (by omega)
        refine ⟨m', ?_, d2⟩
        unfold D243_104
        rw [(o1 (n := k) (by omega)).2.2]
        exact d1
      show ∃ m' : xS, _ ∧ _ ∧ ∀ i, i ≤ 12 → m'.2 79 i = (wrx (m.1 80) t h (wnt (m.1 80) t h 2 true (k + 1) ((m.1 80 3).toInt.toNat - (k + 1)) (if wsel (m.1 80) t h k = true then (if a < m.1 80 (124 + 4 * k + 2) then m.1 80 (124 + 4 * k + 2) else a) else a)) (wnt (m.1 80) t h 3 false (k + 1) ((m.1 80 3).toInt.toNat - (k + 1)) (if wsel (m.1 80) t h k = true then b + m.1 80 (124 + 4 * k + 3) else b)) i).toInt64
      have hA0 : wsel (m.1 80) t h k = false → (if wsel (m.1 80) t h k = true then (if a < m.1 80 (124 + 4 * k + 2) then m.1 80 (124 + 4 * k + 2) else a) else a) = a := fun z => if_neg (by rw [z]; decide)
      have hB0 : wsel (m.1 80) t h k = false → (if wsel (m.1 80) t h k = true then b + m.1 80 (124 + 4 * k + 3) else b) = b := fun z => if_neg (by rw [z]; decide)
      by_cases c1 : pdn (m.1 80) k = true
      · have w0 : wsel (m.1 80) t h k = false := by
          unfold wsel
          rw [c1]
          simp
        rw [hA0 w0, hB0 w0]
        obtain ⟨m', d1, d2⟩ := nx (a' := a) (b' := b)
        exact ⟨m', oF g (ob (r215 rfl k6) (oT (pB2.trans c1) d1)), d2⟩
      have c1 : pdn (m.1 80) k = false := by simpa using c1
      by_cases c2 : m.1 80 (124 + 4 * k) = Int32.ofNat h
      · by_cases c3 : m.1 80 (124 + 4 * k + 1) = m.1 80 (10 + 6 * t + 1)
        · have w1 : wsel (m.1 80) t h k = true := by
            unfold wsel
            rw [c1, c2, c3, beq_self_eq_true, beq_self_eq_true]
            rfl
          have hA1 : (if wsel (m.1 80) t h k = true then (if a < m.1 80 (124 + 4 * k + 2) then m.1 80 (124 + 4 * k + 2) else a) else a) = (if a < m.1 80 (124 + 4 * k + 2) then m.1 80 (124 + 4 * k + 2) else a) := if_pos w1
          have hB1 : (if wsel (m.1 80) t h k = true then b + m.1 80 (124 + 4 * k + 3) else b) = b + m.1 80 (124 + 4 * k + 3) := if_pos w1
          rw [hA1, hB1]
          have f2 : zcmp .ne (m.1 80 (124 + 4 * k + 0)) (Int32.ofNat h) = false := by
            rw [zcn]
            have c2 : m.1 80 (124 + 4 * k + 0) = Int32.ofNat h := c2
            rw [c2, beq_self_eq_true]
            rfl
          have f3 : zcmp .eq (m.1 80 (124 + 4 * k + 1)) (m.1 80 (10 + 6 * t + 1)) = true := by rw [zce, c3, beq_self_eq_true]
          have l90 : ∀ {a' x : Int32}, ∃ m', D243_90 F (D243_16 F f) (Int32.ofNat t) (Int32.ofNat h) (m.1 80 (10 + 6 * t + 3)) x b (Int32.ofNat k) a' m = some ((), m') ∧ kw m m' ∧ ∀ i, i ≤ 12 → m'.2 79 i = (wrx (m.1 80) t h (wnt (m.1 80) t h 2 true (k + 1) ((m.1 80 3).toInt.toNat - (k + 1)) a') (wnt (m.1 80) t h 3 false (k + 1) ((m.1 80 3).toInt.toNat - (k + 1)) (b + m.1 80 (124 + 4 * k + 3))) i).toInt64 := fun {a' x} => by
            obtain ⟨m', d1, d2⟩ := nx (a' := a') (b' := b + m.1 80 (124 + 4 * k + 3))
            refine ⟨m', ?_, d2⟩
            unfold D243_90
            exact ob (r209 (k := 3) rfl rfl k6 (by decide)) d1
          by_cases c4 : (m.1 80 (124 + 4 * k + 2)).toInt ≤ a.toInt
          · have hA2 : (if a < m.1 80 (124 + 4 * k + 2) then m.1 80 (124 + 4 * k + 2) else a) = a := if_neg (fun z => by
              have z := Int32.lt_iff_toInt_lt.mp z
              omega)
            rw [hA2]
            obtain ⟨m', d1, d2⟩ := l90 (a' := a) (x := a)
            exact ⟨m', oF g (ob (r215 rfl k6) (oF (pB2.trans c1) (ob (r209 (k := 0) rfl rfl k6 (by decide)) (oF f2 (ob (r209 (k := 1) rfl rfl k6 (by decide)) (ob (r208 (w := 1) rfl rfl t6 (by decide)) (oT f3 (ob (r209 (k := 2) rfl rfl k6 (by decide)) (oT (zcle.trans (decide_eq_true c4)) d1))))))))), d2⟩
          · have hA2 : (if a < m.1 80 (124 + 4 * k + 2) then m.1 80 (124 + 4 * k + 2) else a) = m.1 80 (124 + 4 * k + 2) := if_pos (Int32.lt_iff_toInt_lt.mpr (by omega))
            rw [hA2]
            obtain ⟨m', d1, d2⟩ := l90 (a' := m.1 80 (124 + 4 * k + 2)) (x := a)
            exact ⟨m', oF g (ob (r215 rfl k6) (oF (pB2.trans c1) (ob (r209 (k := 0) rfl rfl k6 (by decide)) (oF f2 (ob (r209 (k := 1) rfl rfl k6 (by decide)) (ob (r208 (w := 1) rfl rfl t6 (by decide)) (oT f3 (ob (r209 (k := 2) rfl rfl k6 (by decide)) (oF (zcle.trans (decide_eq_false c4)) (ob (r209 (k := 2) rfl rfl k6 (by decide)) d1)))))))))), d2⟩
        · have f3 : zcmp .eq (m.1 80 (124 + 4 * k + 1)) (m.1 80 (10 + 6 * t + 1)) = false := by rw [zce]; exact beq_eq_false_iff_ne.mpr c3
          have f2 : zcmp .ne (m.1 80 (124 + 4 * k + 0)) (Int32.ofNat h) = false := by
            rw [zcn]
            have c2 : m.1 80 (124 + 4 * k + 0) = Int32.ofNat h := c2
            rw [c2, beq_self_eq_true]
            rfl
          have w0 : wsel (m.1 80) t h k = false := by
            unfold wsel
            rw [beq_eq_false_iff_ne.mpr c3]
            simp
          rw [hA0 w0, hB0 w0]
          obtain ⟨m', d1, d2⟩ := nx (a' := a) (b' := b)
          exact ⟨m', oF g (ob (r215 rfl k6) (oF (pB2.trans c1) (ob (r209 (k := 0) rfl rfl k6 (by decide)) (oF f2 (ob (r209 (k := 1) rfl rfl k6 (by decide)) (ob (r208 (w := 1) rfl rfl t6 (by decide)) (oF f3 d1))))))), d2⟩
      · have f2 : zcmp .ne (m.1 80 (124 + 4 * k + 0)) (Int32.ofNat h) = true := by
          rw [zcn]
          have c2 : ¬ m.1 80 (124 + 4 * k + 0) = Int32.ofNat h := c2
          rw [beq_eq_false_iff_ne.mpr c2]
          rfl
        have w0 : wsel (m.1 80) t h k = false := by
          unfold wsel
          rw [beq_eq_false_iff_ne.mpr c2]
          rfl
        rw [hA0 w0, hB0 w0]
        obtain ⟨m', d1, d2⟩ := nx (a' := a) (b' := b)
        exact ⟨m', oF g (ob (r215 rfl k6) (oF (pB2.trans c1) (ob (r209 (k := 0) rfl rfl k6 (by decide)) (oT f2 d1)))), d2⟩
/-- words -/
theorem r243 (hF : 500 ≤ F) {t h : Nat} (I : vI (m.1 80)) (ht : (t : Int) < (m.1 80 2).toInt) (hh : h < 6) : ∃ m', D243 F (Int32.ofNat t) (Int32.ofNat h) m = some ((), m') ∧ kw m m' ∧ ∀ i, i ≤ 12 → m'.2 79 i = wrl (m.1 80) t h i := by
  have t6 : t < 6 := by have := I_nt I; omega
  have n3 := I_nw I
  obtain ⟨m', d1, d2, d3⟩ := r243_16 (F := F) I ht hh F (k := 0) (a := 0) (b := 0) (by omega) (by omega)
  rw [Nat.sub_zero] at d3
  refine ⟨m', ?_, d2, fun i hi => (d3 i hi).trans (congrArg Int32.toInt64 ?_)⟩
  · unfold D243
    exact ob (r208 (w := 3) rfl rfl t6 (by decide)) d1
  · match i, hi with
    | 0, _ => rfl
    | 1, _ => rfl
    | 2, _ => rfl
    | 3, _ => rfl
    | 4, _ => rfl
    | 5, _ => rfl
    | 6, _ => rfl
    | 7, _ => rfl
    | 8, _ => rfl
    | 9, _ => rfl
    | 10, _ => rfl
    | 11, _ => rfl
    | 12, _ => rfl
    | i + 13, z => omega
/-- houseBy -/
theorem r245_8 (hF : 500 ≤ F) {r : Nat} (hr : r < 6) {cs : cLs} {t : Nat} (I : vI s) (ht : (t : Int) < (s 2).toInt) : ∀ (f : Nat) {m : xS} {h : Nat} {a : Int32 × Int64}, m.1 80 = s → cAll m r cs → (h : Int) ≤ (s 0).toInt → 7 - h < f → ∃ m', D245_8 F f (Int32.ofNat r) (Int32.ofNat t) a.1 a.2 (Int32.ofNat h) m = some ((lbh s (smR cs s t) t h ((s 0).toInt.toNat - h) a).1, m') ∧ kg m m' := by
  have n6 := I_n6 I
  have t6 : t < 6 := by have := I_nt I; omega
  intro f
  induction f with
  | zero => intro m h a _ _ _ l; omega
  | succ f ih =>
    intro m h a es C hh l
    have eh := nJ (n := h) (by omega)
    unfold D245_8
    rw [es]
    by_cases q : (s 0).toInt ≤ (h : Int)
    · rw [show (s 0).toInt.toNat - h = 0 by omega]
      exact ⟨m, oT (zc.trans (decide_eq_true (by omega))) rfl, kg_r m⟩
    · have h6 : h < 6 := by omega
      rw [show (s 0).toInt.toNat - h = ((s 0).toInt.toNat - (h + 1)) + 1 by omega]
      show ∃ m' : xS, _ = some ((lbh s (smR cs s t) t (h + 1) ((s 0).toInt.toNat - (h + 1)) (if pcl s t h = true ∧ a.2.toInt < (smR cs s t h).toInt then (Int32.ofNat h, smR cs s t h) else a)).1, m') ∧ _
      have g : zcmp .ge (Int32.ofNat h) (s 0) = false := zc.trans (decide_eq_false (by omega))
      have r2 : D222 F (Int32.ofNat t) (Int32.ofNat h) m = some (pB (pcl s t h), m) := by
        have z := r222 (F := F) (m := m) (by rw [es]; exact I) (t := t) (h := h) rfl rfl (by rw [es]; exact ht) h6
        rw [es] at z
        exact z
      have nx : ∀ {m1 : xS} {b : Int32 × Int64}, kg m m1 → ∃ m', D245_64 F (D245_8 F f) (Int32.ofNat r) (Int32.ofNat t) b.1 b.2 (Int32.ofNat h) m1 = some ((lbh s (smR cs s t) t (h + 1) ((s 0).toInt.toNat - (h + 1)) b).1, m') ∧ kg m m' := fun {m1 b} k => by
        have row : ∀ i, i ≠ 70 → m1.1 i = m.1 i := fun i z => funext fun j => k.1 i j (fun y => z y.1)
        obtain ⟨m', d1, d2⟩ := ih (m := m1) (h := h + 1) (a := b) ((row 80 (by decide)).trans es) (cAll_f (row 72 (by decide)) (row 74 (by decide)) (row 75 (by decide)) C) (by omega) (by omega)
        refine ⟨m', ?_, kg_t k d2⟩
        unfold D245_64
        rw [(o1 (n := h) (by omega)).2.2]
        exact d1
      by_cases c : pcl s t h = true
      · obtain ⟨m1, z1, z2, z3⟩ := r243 (F := F) (m := m) hF (t := t) (h := h) (by rw [es]; exact I) (by rw [es]; exact ht) h6
        rw [es] at z3
        have C1 : cAll m1 r cs := cAll_f (congrFun z2.1 72) (congrFun z2.1 74) (congrFun z2.1 75) C
        obtain ⟨m2, y1, y2⟩ := r244 (F := F) (m := m1) (v1 := Int32.ofNat r) hF hr rfl C1
        have e : sumE (m1.2 79) cs = smR cs s t h := sumE_w z3 (cAll_wf C1)
        rw [e] at y1
        have k2 : kg m m2 := kg_t (kg_w z2) (kg_l y2)
        have g5 := (lgS (smR cs s t h) a.2).2.1
        by_cases d : a.2.toInt < (smR cs s t h).toInt
        · have hS : (if pcl s t h = true ∧ a.2.toInt < (smR cs s t h).toInt then (Int32.ofNat h, smR cs s t h) else a) = (Int32.ofNat h, smR cs s t h) := if_pos ⟨c, d⟩
          rw [hS]
          obtain ⟨m', d1, d2⟩ := nx (m1 := m2) (b := (Int32.ofNat h, smR cs s t h)) k2
          exact ⟨m', oF g (ob r2 (oT (pB2.trans c) (ob z1 (ob y1 (oT (g5.trans (decide_eq_true d)) d1))))), d2⟩
        · have hS : (if pcl s t h = true ∧ a.2.toInt < (smR cs s t h).toInt then (Int32.ofNat h, smR cs s t h) else a) = a := if_neg (fun z => d z.2)
          rw [hS]
          obtain ⟨m', d1, d2⟩ := nx (m1 := m2) (b := a) k2
          exact ⟨m', oF g (ob r2 (oT (pB2.trans c) (ob z1 (ob y1 (oF (g5.trans (decide_eq_false d)) d1))))), d2⟩
      · have hS : (if pcl s t h = true ∧ a.2.toInt < (smR cs s t h).toInt then (Int32.ofNat h, smR cs s t h) else a) = a := if_neg (fun z => c z.1)
        rw [hS]
        have c' : pcl s t h = false := by simpa using c
        obtain ⟨m', d1, d2⟩ := nx (m1 := m) (b := a) (kg_r m)
        exact ⟨m', oF g (ob r2 (oF (pB2.trans c') d1)), d2⟩
theorem r245 (hF : 500 ≤ F) {r : Nat} (hr : r < 6) {cs : cLs} {t : Nat} (es : m.1 80 = s) (I : vI s) (ht : (t : Int) < (s 2).toInt) (C : cAll m r cs) : ∃ m', D245 F (Int32.ofNat r) (Int32.ofNat t) m = some ((lbh s (smR cs s t) t 0 (s 0).toInt.toNat (-1, 0)).1, m') ∧ kg m m' := by
  have n0 := I_n0 I
  have z := r245_8 (F := F) hF hr (cs := cs) I ht F (m := m) (h := 0) (a := (-1, 0)) es C (by omega) (by omega)
  rw [Nat.sub_zero] at z
  unfold D245
  exact z
/-- pay, as works are done -/
def fpy : Nat → Nat → (Nat → Int32) → Int32 → Int32
  | _, 0, _, v => v
  | w, n + 1, s, v => fpy (w + 1) n (if pcd s w = true then pwk s w else s) (if pcd s w = true then v + s (124 + 4 * w + 3) else v)
theorem fpy_e : ∀ (n : Nat) {w : Nat} {s : Nat → Int32} {v : Int32}, fpy w n s v = v + (fwk w n s 5 - s 5)
  | 0, w, s, v => by
    show v = v + (s 5 - s 5)
    rw [Int32.sub_self, Int32.add_zero]
  | n + 1, w, s, v => by
    show fpy (w + 1) n (if pcd s w = true then pwk s w else s) (if pcd s w = true then v + s (124 + 4 * w + 3) else v) = v + (fwk (w + 1) n (if pcd s w = true then pwk s w else s) 5 - s 5)
    rw [fpy_e n]
    by_cases z : pcd s w = true
    · rw [if_pos z, if_pos z]
      have e5 : pwk s w 5 = s 5 + s (124 + 4 * w + 3) := cup_s _ _ _
      rw [e5]
      generalize fwk (w + 1) n (pwk s w) 5 = x
      generalize s (124 + 4 * w + 3) = y
      generalize s 5 = u
      grind
    · rw [if_neg z, if_neg z]
theorem r246_4 (hF : 500 ≤ F) : ∀ (f : Nat) {m : xS} {w : Nat} {v : Int32}, vI (m.1 80) → (w : Int) ≤ (m.1 80 3).toInt → 7 - w < f → D246_4 F f v (Int32.ofNat w) m = some (fpy w ((m.1 80 3).toInt.toNat - w) (m.1 80) v, xr m 80 (fwk w ((m.1 80 3).toInt.toNat - w) (m.1 80))) := by
  intro f
  induction f with
  | zero => intro m w v _ _ l; omega
  | succ f ih =>
    intro m w v I hw l
    have n3 := I_nw I
    have ew := nJ (n := w) (by omega)
    unfold D246_4
    by_cases q : (m.1 80 3).toInt ≤ (w : Int)
    · rw [show (m.1 80 3).toInt.toNat - w = 0 by omega]
      refine oT (zc.trans (decide_eq_true (by omega))) ?_
      show _ = some (v, xr m 80 (m.1 80))
      rw [xr_id]
    · rw [show (m.1 80 3).toInt.toNat - w = ((m.1 80 3).toInt.toNat - (w + 1)) + 1 by omega]
      have w3 : (w : Int) < (m.1 80 3).toInt := by omega
      have w6 : w < 6 := by omega
      have g : zcmp .ge (Int32.ofNat w) (m.1 80 3) = false := zc.trans (decide_eq_false (by omega))
      show _ = some (fpy (w + 1) ((m.1 80 3).toInt.toNat - (w + 1)) (if pcd (m.1 80) w = true then pwk (m.1 80) w else m.1 80) (if pcd (m.1 80) w = true then v + m.1 80 (124 + 4 * w + 3) else v), xr m 80 (fwk (w + 1) ((m.1 80 3).toInt.toNat - (w + 1)) (if pcd (m.1 80) w = true then pwk (m.1 80) w else m.1 80)))
      by_cases c : pcd (m.1 80) w = true
      · have hP : (if pcd (m.1 80) w = true then pwk (m.1 80) w else m.1 80) = pwk (m.1 80) w := if_pos c
        have hV : (if pcd (m.1 80) w = true then v + m.1 80 (124 + 4 * w + 3) else v) = v + m.1 80 (124 + 4 * w + 3) := if_pos c
        rw [hP, hV]
        have e3 : pwk (m.1 80) w 3 = m.1 80 3 := pwk_k (by decide)
        have z := ih (m := xr m 80 (pwk (m.1 80) w)) (w := w + 1) (v := v + m.1 80 (124 + 4 * w + 3)) (by rw [xr_s]; exact I_wk I w3) (by rw [xr_s, e3]; omega) (by omega)
        rw [xr_s, e3, xr_xr] at z
        refine oF g (ob (r216 hF (I_nt I) rfl w6) (oF (pB1.trans (by rw [c]; rfl)) (ob (r225 rfl w6) ?_)))
        unfold D246_32
        rw [(o1 (n := w) (by omega)).2.2]
        exact z
      · have hP : (if pcd (m.1 80) w = true then pwk (m.1 80) w else m.1 80) = m.1 80 := if_neg c
        have hV : (if pcd (m.1 80) w = true then v + m.1 80 (124 + 4 * w + 3) else v) = v := if_neg c
        rw [hP, hV]
        have c0 : pcd (m.1 80) w = false := by simpa using c
        have z := ih (m := m) (w := w + 1) (v := v) I (by omega) (by omega)
        refine oF g (ob (r216 hF (I_nt I) rfl w6) (oT (pB1.trans (by rw [c0]; rfl)) ?_))
        unfold D246_32
        rw [(o1 (n := w) (by omega)).2.2, Int32.add_zero]
        exact z
theorem r246 (hF : 500 ≤ F) (I : vI (m.1 80)) : D246 F m = some (fwk 0 (m.1 80 3).toInt.toNat (m.1 80) 5 - m.1 80 5, xr m 80 (fwk 0 (m.1 80 3).toInt.toNat (m.1 80))) := by
  have n3 := I_nw I
  have z := r246_4 (F := F) hF F (m := m) (w := 0) (v := 0) I (by omega) (by omega)
  rw [Nat.sub_zero, fpy_e, Int32.zero_add] at z
  unfold D246
  exact z
/-- what the reference's days may change -/
def kgd (m m' : xS) : Prop := (∀ i j, i ≠ 80 → ¬ (i = 70 ∧ j = 20) → m'.1 i j = m.1 i j) ∧ ∀ i j, i ≠ 78 → i ≠ 79 → m'.2 i j = m.2 i j
theorem kgd_t {a b c : xS} (h1 : kgd a b) (h2 : kgd b c) : kgd a c := ⟨fun i j h k => (h2.1 i j h k).trans (h1.1 i j h k), fun i j h k => (h2.2 i j h k).trans (h1.2 i j h k)⟩
theorem kgd_g {a b : xS} (h : kg a b) : kgd a b := ⟨fun i j _ k => h.1 i j k, h.2⟩
theorem kgd_x {a : xS} {c : Nat → Int32} : kgd a (xr a 80 c) := ⟨fun i j h _ => by rw [xr_o h], fun _ _ _ _ => rfl⟩
theorem cAll_k {m' : xS} {r : Nat} {cs : cLs} (k : kgd m m') (h : cAll m r cs) : cAll m' r cs := cAll_f (funext fun j => k.1 72 j (by decide) (fun z => absurd z.1 (by decide))) (funext fun j => k.1 74 j (by decide) (fun z => absurd z.1 (by decide))) (funext fun j => k.1 75 j (by decide) (fun z => absurd z.1 (by decide))) h
/-- goesBy -/
theorem r247_2 (hF : 500 ≤ F) {r : Nat} (hr : r < 6) {cs : cLs} : ∀ (f : Nat) {s : Nat → Int32} {m : xS} {t : Nat}, m.1 80 = s → vI s → (s 4).toInt < 2000 → cAll m r cs → (t : Int) ≤ (s 2).toInt → 7 - t < f → ∃ m', D247_2 F f (Int32.ofNat r) (Int32.ofNat t) m = some (fwk 0 (s 3).toInt.toNat (lall (smR cs) t ((s 2).toInt.toNat - t) s) 5 - lall (smR cs) t ((s 2).toInt.toNat - t) s 5, m') ∧ m'.1 80 = pdy (fwk 0 (s 3).toInt.toNat (lall (smR cs) t ((s 2).toInt.toNat - t) s)) ∧ kgd m m' := by
  intro f
  induction f with
  | zero => intro s m t _ _ _ _ _ l; omega
  | succ f ih =>
    intro s m t es I d9 C ht l
    have n2 := I_nt I
    have n6 := I_n6 I
    have n3 := I_nw I
    have et := nJ (n := t) (by omega)
    unfold D247_2
    rw [es]
    by_cases q : (s 2).toInt ≤ (t : Int)
    · rw [show (s 2).toInt.toNat - t = 0 by omega]
      show ∃ m' : xS, _ = some (fwk 0 (s 3).toInt.toNat s 5 - s 5, m') ∧ m'.1 80 = pdy (fwk 0 (s 3).toInt.toNat s) ∧ _
      have z := r246 (F := F) (m := m) hF (by rw [es]; exact I)
      rw [es] at z
      have K := fwk_I (s 3).toInt.toNat (w := 0) I (by omega)
      have y := r233 (F := F) (m := xr m 80 (fwk 0 (s 3).toInt.toNat s)) hF (by rw [xr_s]; exact K)
      rw [xr_s, xr_xr] at y
      exact ⟨xr m 80 (pdy (fwk 0 (s 3).toInt.toNat s)), oT (zc.trans (decide_eq_true (by omega))) (ob z (ob y rfl)), xr_s _ _ _, kgd_x⟩
    · rw [show (s 2).toInt.toNat - t = ((s 2).toInt.toNat - (t + 1)) + 1 by omega]
      have t2 : (t : Int) < (s 2).toInt := by omega
      have g : zcmp .ge (Int32.ofNat t) (s 2) = false := zc.trans (decide_eq_false (by omega))
      obtain ⟨m1, z1, z2⟩ := r245 (F := F) hF hr es I t2 C
      have ok := lnd1_ok (sm := smR cs) (t := t) I
      have es1 : m1.1 80 = s := (funext fun j => z2.1 80 j (fun z => absurd z.1 (by decide))).trans es
      show ∃ m' : xS, _ = some (fwk 0 (s 3).toInt.toNat (lall (smR cs) (t + 1) ((s 2).toInt.toNat - (t + 1)) (lnd1 (smR cs) s t)) 5 - lall (smR cs) (t + 1) ((s 2).toInt.toNat - (t + 1)) (lnd1 (smR cs) s t) 5, m') ∧ m'.1 80 = pdy (fwk 0 (s 3).toInt.toNat (lall (smR cs) (t + 1) ((s 2).toInt.toNat - (t + 1)) (lnd1 (smR cs) s t))) ∧ _
      have J : vI (lnd1 (smR cs) s t) := ldt_I I t2 ok
      have e2 : lnd1 (smR cs) s t 2 = s 2 := ldt_k (by decide)
      have e3 : lnd1 (smR cs) s t 3 = s 3 := ldt_k (by decide)
      have e4 : lnd1 (smR cs) s t 4 = s 4 := ldt_k (by decide)
      have nx : ∀ {m2 : xS} {v3 : Int32}, m2.1 80 = lnd1 (smR cs) s t → kgd m m2 → ∃ m', D247_29 F (D247_2 F f) (Int32.ofNat r) (Int32.ofNat t) v3 m2 = some (fwk 0 (s 3).toInt.toNat (lall (smR cs) (t + 1) ((s 2).toInt.toNat - (t + 1)) (lnd1 (smR cs) s t)) 5 - lall (smR cs) (t + 1) ((s 2).toInt.toNat - (t + 1)) (lnd1 (smR cs) s t) 5, m') ∧ m'.1 80 = pdy (fwk 0 (s 3).toInt.toNat (lall (smR cs) (t + 1) ((s 2).toInt.toNat - (t + 1)) (lnd1 (smR cs) s t))) ∧ kgd m m' := fun {m2 v3} e k => by
        obtain ⟨m', d1, d2, d3⟩ := ih (s := lnd1 (smR cs) s t) (m := m2) (t := t + 1) e J (by rw [e4]; exact d9) (cAll_k k C) (by rw [e2]; omega) (by omega)
        rw [e2, e3] at d1 d2
        refine ⟨m', ?_, d2, kgd_t k d3⟩
        unfold D247_29
        rw [(o1 (n := t) (by omega)).2.2]
        exact d1
      generalize hb : (lbh s (smR cs s t) t 0 (s 0).toInt.toNat (-1, 0)).1 = b at z1 ok
      have eld : lnd1 (smR cs) s t = ldt s t b := by
        unfold lnd1
        rw [hb]
      rcases ok with e | ⟨k, e, k1, k2⟩
      · subst e
        obtain ⟨m', d1, d2, d3⟩ := nx (m2 := m1) (v3 := -1) (by rw [es1, eld]; unfold ldt; rw [if_pos rfl]) (kgd_g z2)
        exact ⟨m', oF g (ob z1 (oT (show zcmp .lt (-1 : Int32) 0 = true by decide) d1)), d2, d3⟩
      · have ek := nJ (n := k) (by omega)
        subst e
        have z3 := r223 (F := F) (m := m1) (by rw [es1]; exact I) (t := t) (h := k) rfl rfl (by rw [es1]; exact t2) (by omega)
        rw [es1] at z3
        have e1 : (-1 : Int32).toInt = -1 := rfl
        obtain ⟨m', d1, d2, d3⟩ := nx (m2 := xr m1 80 (pld s t k)) (v3 := Int32.ofNat k) (by
          rw [xr_s, eld]
          unfold ldt
          rw [if_neg (fun z => by
            have z := congrArg Int32.toInt z
            rw [ek] at z
            omega), ek, Int.toNat_natCast]) (kgd_t (kgd_g z2) kgd_x)
        have e0 : (0 : Int32).toInt = 0 := rfl
        exact ⟨m', oF g (ob z1 (oF (zcl.trans (decide_eq_false (by rw [ek, e0]; omega))) (ob z3 d1))), d2, d3⟩
theorem r247 (hF : 500 ≤ F) {r : Nat} (hr : r < 6) {cs : cLs} (es : m.1 80 = s) (I : vI s) (d9 : (s 4).toInt < 2000) (C : cAll m r cs) : ∃ m', D247 F (Int32.ofNat r) m = some (day1 (smR cs) s 5 - s 5, m') ∧ m'.1 80 = day1 (smR cs) s ∧ kgd m m' := by
  have n2 := I_nt I
  have n3 := I_nw I
  obtain ⟨m', z1, z2, z3⟩ := r247_2 (F := F) hF hr (cs := cs) F (s := s) (m := m) (t := 0) es I d9 C (by omega) (by omega)
  rw [Nat.sub_zero] at z1 z2
  have J := lall_I (sm := smR cs) (s 2).toInt.toNat (t := 0) I (by omega)
  have K := fwk_I (s 3).toInt.toNat (w := 0) J (by rw [lall_k _ (by decide)]; omega)
  have e5 : day1 (smR cs) s 5 = fwk 0 (s 3).toInt.toNat (lall (smR cs) 0 (s 2).toInt.toNat s) 5 := pdy_o K (fun i hi => by omega) (by decide)
  have e6 : lall (smR cs) 0 (s 2).toInt.toNat s 5 = s 5 := lall_k _ (by decide)
  rw [e6, ← e5] at z1
  refine ⟨m', ?_, z2, z3⟩
  unfold D247
  exact z1
/-- run: its loop -/
theorem r248_53 (hF : 500 ≤ F) {r : Nat} (hr : r < 6) {cs : cLs} {v2 : Int32} {n : Nat} (h2 : v2 = Int32.ofNat n) (n60 : n ≤ 60) : ∀ (f : Nat) {s : Nat → Int32} {m : xS} {i : Nat} {v : Int32}, m.1 80 = s → vI s → (s 4).toInt + ((n - i : Nat) : Int) ≤ 999 → cAll m r cs → i ≤ n → n - i < f → ∃ m', D248_53 F f (Int32.ofNat r) v2 v (Int32.ofNat i) m = some (v + (rdays (smR cs) (n - i) s 5 - s 5), m') ∧ m'.1 80 = rdays (smR cs) (n - i) s ∧ kgd m m' := by
  subst h2
  have en := nJ (n := n) (by omega)
  intro f
  induction f with
  | zero => intro s m i v _ _ _ _ _ l; omega
  | succ f ih =>
    intro s m i v es I hd C hi l
    have ei := nJ (n := i) (by omega)
    unfold D248_53
    by_cases q : n ≤ i
    · rw [show n - i = 0 by omega]
      refine ⟨m, oT (zc.trans (decide_eq_true (by omega))) ?_, es, kgd_g (kg_r m)⟩
      show _ = some (v + (s 5 - s 5), m)
      rw [Int32.sub_self, Int32.add_zero]
    · rw [show n - i = (n - (i + 1)) + 1 by omega]
      obtain ⟨m1, z1, z2, z3⟩ := r247 (F := F) hF hr es I (by omega) C
      have dd := day1_d (sm := smR cs) I (by omega)
      obtain ⟨m', d1, d2, d3⟩ := ih (s := day1 (smR cs) s) (m := m1) (i := i + 1) (v := v + (day1 (smR cs) s 5 - s 5)) z2 (day1_I I (by omega)) (by rw [dd]; omega) (cAll_k z3 C) (by omega) (by omega)
      refine ⟨m', oF (zc.trans (decide_eq_false (by omega))) (ob z1 ?_), d2, kgd_t z3 d3⟩
      rw [(o1 (n := i) (by omega)).2.2]
      refine d1.trans ?_
      show some (_, m') = some (v + (rdays (smR cs) (n - (i + 1)) (day1 (smR cs) s) 5 - s 5), m')
      refine congrArg (fun z => some (z, m')) ?_
      generalize rdays (smR cs) (n - (i + 1)) (day1 (smR cs) s) 5 = x
      generalize day1 (smR cs) s 5 = y
      generalize s 5 = u
      grind
end PRRN
end
section
/-! Rules on both sides, as heaps hold them. -/
def ruI (hp : zHp) : Prop := ∀ j : Nat, (j : Int) < ((xof hp).1 0 8).toInt → ∃ out, ruC hp j out ∧ ruR (xof hp) j out
abbrev MR (hp : zHp) : Prop := MI hp ∧ ruI hp
abbrev ruM : yM := [(0, 0, 8), (13, 13, 1000), (72, 72, 1000), (74, 75, 1000), (88, 999, 1000)]
theorem cAll_o {m m' : xS} {t : Nat} {cs : cLs} (h2 : ∀ j, 400 * t ≤ j → j < 400 * t + 400 → m'.1 72 j = m.1 72 j) (h4 : ∀ j, 48 * t ≤ j → j < 48 * t + 48 → m'.1 74 j = m.1 74 j) (h5 : m'.1 75 t = m.1 75 t) (h : cAll m t cs) : cAll m' t cs := by
  obtain ⟨a1, a2, a3⟩ := h
  refine ⟨h5.trans a1, a2, fun i q hi => ?_⟩
  have li : i < cs.length := (List.getElem?_eq_some_iff.mp hi).1
  have cA : ∀ a S, cAt m t a S → cAt m' t a S := fun a S z => ⟨z.1, fun j c hj => by
    have lj := (List.getElem?_eq_some_iff.mp hj).1
    have := z.1
    exact (h2 _ (by omega) (by omega)).trans (z.2 j c hj)⟩
  obtain ⟨⟨a, b1, b2, b3, b4⟩, b5⟩ := a3 i q hi
  refine ⟨⟨a, (h4 _ (by omega) (by omega)).trans b1, (h4 _ (by omega) (by omega)).trans b2, cA _ _ b3, b4⟩, ?_⟩
  cases q2 : q.2 with
  | none =>
    rw [q2] at b5
    show (m'.1 74 _).toInt < 0
    rw [h4 _ (by omega) (by omega)]
    exact b5
  | some T =>
    rw [q2] at b5
    obtain ⟨b, g1, g2, g3, g4⟩ := b5
    exact ⟨b, (h4 _ (by omega) (by omega)).trans g1, (h4 _ (by omega) (by omega)).trans g2, cA _ _ g3, g4⟩
theorem ruR_o {m m' : xS} {t : Nat} {o : List Int} (h2 : ∀ j, 400 * t ≤ j → j < 400 * t + 400 → m'.1 72 j = m.1 72 j) (h4 : ∀ j, 48 * t ≤ j → j < 48 * t + 48 → m'.1 74 j = m.1 74 j) (h5 : m'.1 75 t = m.1 75 t) (h : ruR m t o) : ruR m' t o := by
  obtain ⟨CL, Q, a1, a2⟩ := h
  exact ⟨CL, Q, cAll_o h2 h4 h5 a1, a2⟩
theorem ruC_F {M : yM} {hp z : zHp} (H : yH0 hp) (f : yF M hp z) (h : ydj M [(13, 13, 1000), (88, 999, 1000)] = true) {j : Nat} {o : List Int} (k : ruC hp j o) : ruC z j o := by
  have h9 := H.2.1
  obtain ⟨q1, q2, q3, q4, q5, q6, q7⟩ := k
  have c : ∀ i : Nat, yinM [(13, 13, 1000), (88, 999, 1000)] (88 + 3 * j + 1) (i : Int) = true := fun i => yin_r (a := 88) (b := 999) (by decide) (by omega) (by omega)
  exact ⟨(f.2.2 13 j (Or.inr (ydj_ok h 13 j (yin_r (a := 13) (b := 13) (by decide) (by decide) (by decide))))).trans q1, Nat.lt_of_lt_of_le q2 f.1, (f.2.2 _ (-1) (Or.inl ⟨by decide, by omega⟩)).trans q3, q4, q5, fun i hi => (f.2.2 _ i (Or.inr (ydj_ok h _ _ (c i)))).trans (q6 i hi), q7⟩
theorem ruI_F {M : yM} {hp z : zHp} (H : yH0 hp) (f : yF M hp z) (h : ydj M ruM = true) (k : ruI hp) : ruI z := fun j hj => by
  have q : ∀ i j : Nat, yinM ruM i (j : Int) = true → (xof z).1 i j = (xof hp).1 i j := fun i j hj => eF f (ydj_ok h i j hj)
  rw [q 0 8 rfl] at hj
  obtain ⟨o, c, r⟩ := k j hj
  have h9 := H.2.1
  obtain ⟨q1, q2, q3, q4, q5, q6, q7⟩ := c
  have c : ∀ i : Nat, yinM ruM (88 + 3 * j + 1) (i : Int) = true := fun i => yin_r (a := 88) (b := 999) (by decide) (by omega) (by omega)
  refine ⟨o, ⟨(f.2.2 13 j (Or.inr (ydj_ok h 13 j (yin_r (a := 13) (b := 13) (by decide) (by decide) (by decide))))).trans q1, Nat.lt_of_lt_of_le q2 f.1, (f.2.2 _ (-1) (Or.inl ⟨by decide, by omega⟩)).trans q3, q4, q5, fun i hi => (f.2.2 _ i (Or.inr (ydj_ok h _ _ (c i)))).trans (q6 i hi), q7⟩, ?_⟩
  exact ruR_o (fun l _ _ => q 72 l (yin_r (a := 72) (b := 72) (by decide) (by decide) (by decide))) (fun l _ _ => q 74 l (yin_r (a := 74) (b := 75) (by decide) (by decide) (by decide))) (q 75 j (yin_r (a := 74) (b := 75) (by decide) (by decide) (by decide))) r
/-- a pair over MI that leaves rules alone -/
theorem eS {cm : Bool} {n1 n2 : Nat} {sp1 sp2 : ySp} (T1 : yTs (yEA yAr) n1 sp1) (T2 : yTs (yEA yAr) n2 sp2) {na : Nat} {bl : List Nat} (c1 : (eOk 0 na bl sp1.2.2.1 && (decide (n1 ≤ 20) && (decide (na + 1 ≤ sp1.2.1) && sp1.2.2.2.1.all eQok))) = true) (c2 : (eOk 70 na bl sp2.2.2.1 && (decide (n2 ≤ 20) && (decide (na + 1 ≤ sp2.2.1) && sp2.2.2.2.1.all eQok))) = true) (hN : (ydj sp1.2.2.2.2 ruM && ydj sp2.2.2.2.2 ruM) = true) (ys : List Int32) (hl : ys.length = na) (hb : ∀ s ∈ bl, ∀ y, ys[s]? = some y → 0 ≤ y.toInt ∧ y.toInt ≤ 1) (P : lP MI sp1.1 sp2.1 (ys.map .int) cm) : lP MR sp1.1 sp2.1 (ys.map .int) cm := fun hp hI => by
  rw [Bool.and_eq_true] at hN
  obtain ⟨x1, x2, z1, z2, a1, a2, a3, a4, a5, a6, a7, a8⟩ := P hp hI.1
  obtain ⟨x3, z3, b1, b2, b3, -⟩ := eSp T1 c1 hI.1.1.1 hl hb
  have u := zCan_u a3 b1
  cases u
  obtain ⟨x4, z4, d1, d2, d3, -⟩ := eSp T2 c2 b2 hl hb
  have u := zCan_u a5 d1
  cases u
  exact ⟨x1, x2, z1, z2, a1, a2, a3, a4, a5, a6, ⟨a7, ruI_F b2.1 d3 hN.2 (ruI_F hI.1.1.1.1 b3 hN.1 hI.2)⟩, a8⟩
/-- rule, over all of it -/
theorem nRule : lP MR 126 197 [] true := fun hp hI => by
  obtain ⟨x1, x2, z1, z2, a1, a2, a3, a4, a5, a6, a7, a8⟩ := m3 hp hI.1
  refine ⟨x1, x2, z1, z2, a1, a2, a3, a4, a5, a6, ⟨a7, ?_⟩, a8⟩
  have J := hI.1.1
  obtain ⟨x3, w1, p1, p2, p3, -⟩ := eSp (yl646 yXx) (c := 0) (na := 0) (bl := []) (by decide +kernel) J.1 (ys := []) rfl (fun s hs => by cases hs)
  have u := zCan_u a3 p1
  cases u
  obtain ⟨x4, w2, q1, q2, q3, -⟩ := eSp (yl3 yXx) (c := 70) (na := 0) (bl := []) (by decide +kernel) p2 (ys := []) rfl (fun s hs => by cases hs)
  have u := zCan_u a5 q1
  cases u
  have hT := xT_of J.1.1
  have b1 : (0 : Int) ≤ ((xof hp).1 0 1).toInt ∧ ((xof hp).1 0 1).toInt ≤ 400 := hT 0 1 (0, 400) rfl
  have b8 : (0 : Int) ≤ ((xof hp).1 0 8).toInt ∧ ((xof hp).1 0 8).toInt ≤ 6 := hT 0 8 (0, 6) rfl
  obtain ⟨n, hn⟩ : ∃ n : Nat, ((xof hp).1 0 1).toInt = (n : Int) := ⟨((xof hp).1 0 1).toInt.toNat, by omega⟩
  obtain ⟨r, hr⟩ : ∃ r : Nat, ((xof hp).1 0 8).toInt = (r : Int) := ⟨((xof hp).1 0 8).toInt.toNat, by omega⟩
  obtain ⟨v, x, k1, -, kR, hQ⟩ := kRul (b := fun j => ((xof hp).1 1 j).toInt) (d := 20) J.1.1 J.1.2.2.2 (by decide) hn (fun _ _ => rfl)
  have u := zCan_u p1 k1
  cases u
  have f70 : ∀ j, (xof z1).1 70 j = (xof hp).1 70 j := fun j => eF p3 (by unfold yinM; rfl)
  have f71 : ∀ j, (xof z1).1 71 j = (xof hp).1 71 j := fun j => eF p3 (by unfold yinM; rfl)
  have N : rN (xof z1) (fun j => ((xof hp).1 1 j).toInt) n := ⟨by rw [f70]; exact J.2.1.trans hn, by omega, fun j hj => ⟨hT 1 j (0, 255) (eb1 (by omega)), by rw [f71]; exact J.2.2.2 j (by omega)⟩⟩
  obtain ⟨y, hy, -, hQ2⟩ := R197x (F := 500) (r := r) (Nat.le_refl _) N (xT_of p2.1) (by rw [f70]; exact J.2.2.1.trans hr) (by omega)
  have u2 := Z197 p2.1 hy (d := 20) (by decide)
  rw [xW_of] at u2
  have u2 := zCan_u q1 u2
  cases u2
  have e08 : (xof (xW z1 y.2)).1 0 8 = (xof z1).1 0 8 := eF q3 rfl
  have r72 : (xof (xW z1 y.2)).1 72 = y.2.1 72 := xof_t p2.1 (k := 0) (n := 2400) (by decide)
  have r73 : (xof (xW z1 y.2)).1 73 = y.2.1 73 := xof_t p2.1 (k := 0) (n := 7) (by decide)
  have r74 : (xof (xW z1 y.2)).1 74 = y.2.1 74 := xof_t p2.1 (k := 0) (n := 288) (by decide)
  have r75 : (xof (xW z1 y.2)).1 75 = y.2.1 75 := xof_t p2.1 (k := 0) (n := 6) (by decide)
  have cz : ∀ {j : Nat} {o : List Int}, ruC z1 j o → ruC (xW z1 y.2) j o := fun k => ruC_F p2.1 q3 (by decide +kernel) k
  have c1 : ∀ i, 70 ≤ i → i < 88 → (xof z1).1 i = (xof hp).1 i := fun i l1 l2 => funext fun j => eF p3 (by
    unfold yinM
    simp only [show ys646.2.2.2.2 = [(0, 0, 1), (0, 0, 8), (2, 2, 0), (2, 2, 1), (2, 2, 2), (2, 2, 3), (2, 2, 4), (6, 6, 1), (6, 6, 3), (6, 6, 4), (6, 6, 5), (6, 6, 6), (6, 6, 7), (6, 6, 8), (6, 6, 9), (7, 8, 1000), (13, 13, 1000), (88, 999, 1000)] from rfl, List.any_cons, List.any_nil, Bool.or_false, Bool.or_eq_false_iff, Bool.and_eq_false_iff, decide_eq_false_iff_not]
    omega)
  -- the rules that were there
  have old : ∀ {j : Nat}, j < r → r < 6 → rO (xof z1) r y.2 → ∃ out, ruC (xW z1 y.2) j out ∧ ruR (xof (xW z1 y.2)) j out := fun {j} hj _ O => by
    obtain ⟨o, k1, k2⟩ := hI.2 j (by omega)
    refine ⟨o, cz (kR j o (by omega) k1), ruR_o (fun l l1 l2 => ?_) (fun l l1 l2 => ?_) ?_ k2⟩
    · rw [r72, O.1 l (by omega), c1 72 (by decide) (by decide)]
    · rw [r74, O.2.2 l (by omega), c1 74 (by decide) (by decide)]
    · rw [r75, (O.2.1 j (by omega)).2, c1 75 (by decide) (by decide)]
  intro j hj
  rw [e08] at hj
  rcases hQ with ⟨c6, -, c2⟩ | ⟨c6, c1', c2⟩
  · subst c2
    rcases hQ2 with ⟨-, -, m2⟩ | ⟨l2, -⟩
    · rw [m2, xW_of]
      exact hI.2 j hj
    · omega
  · rcases hQ2 with ⟨l2, -, -⟩ | ⟨l2, t0, O, t⟩
    · omega
    · rcases c2 with ⟨g, g1, g2, -, g4⟩ | ⟨s, s1, -, s3, s4⟩
      · rw [g4] at hj
        exact old (by omega) l2 O
      · rcases t with ⟨J', g', j1, j2, j3, -, j5⟩ | ⟨J', s', L, j1, j2, j3, -, j5, j6, j7, j8, j9⟩
        · rw [trun_l J' 401 j3 j2 j1] at s1
          cases s1
        · rw [trun_r j3 J' 401 j2 j1] at s1
          have s1 : s' = s := Sum.inr.inj s1
          subst s1
          by_cases h : j < r
          · exact old h l2 O
          · have e : j = r := by omega
            subst e
            rw [hr, Int.toNat_natCast] at s4
            refine ⟨_, cz s4, ruR_of l2 q2.2.2.1 j2 j3 j6 j7 j8 ?_⟩
            unfold rK
            rw [r72, r73, r74, r75]
            exact j9
/-! run. -/
theorem rlA_of {hp : zHp} (H : yH0 hp) {j : Nat} {o : List Int} (C : ruC hp j o) (j6 : j < 6) {ru : Int32} (e : ru.toInt = (j : Int)) : rlA hp ru (88 + 3 * j) o.length := by
  obtain ⟨q1, q2, q3, q4, -⟩ := C
  have h9 := H.2.1
  have c0 := H.2.2 (88 + 3 * j) (by omega)
  have c1 := H.2.2 (89 + 3 * j) (by omega)
  have c2 := H.2.2 (90 + 3 * j) (by omega)
  have c13 := H.2.2 13 (by omega)
  rw [yty_r0] at c0
  rw [yty_r1] at c1
  rw [yty_r2] at c2
  rw [yty13] at c13
  obtain ⟨fs, e1, e2, e3⟩ : ∃ fs : List Value, hp.2 (88 + 3 * j) = .inr (4, fs) ∧ fs.length = 2 ∧ ∀ (l : Nat) (t : Nat × Int × Int), [((2, ((88 + 3 * j : Nat) : Int) + 1, ((88 + 3 * j : Nat) : Int) + 1) : Nat × Int × Int), (2, ((88 + 3 * j : Nat) : Int) + 2, ((88 + 3 * j : Nat) : Int) + 2)][l]? = some t → ∃ v, fs[l]? = some v ∧ yft t v := c0
  obtain ⟨v0, f0, i0, rfl, g0, g0'⟩ := e3 0 _ rfl
  obtain ⟨v1, f1, i1, rfl, g1, g1'⟩ := e3 1 _ rfl
  have g0 : ((88 + 3 * j : Nat) : Int) + 1 ≤ (i0 : Int) := g0
  have g0' : (i0 : Int) ≤ ((88 + 3 * j : Nat) : Int) + 1 := g0'
  have g1 : ((88 + 3 * j : Nat) : Int) + 2 ≤ (i1 : Int) := g1
  have g1' : (i1 : Int) ≤ ((88 + 3 * j : Nat) : Int) + 2 := g1'
  have efs : fs = [.ref (88 + 3 * j + 1), .ref (88 + 3 * j + 2)] := by
    match fs, e2, f0, f1 with
    | [x, y], _, f0, f1 =>
      have f0 : x = .ref i0 := Option.some.inj f0
      have f1 : y = .ref i1 := Option.some.inj f1
      rw [f0, f1, show i0 = 88 + 3 * j + 1 by omega, show i1 = 88 + 3 * j + 2 by omega]
  obtain ⟨n, g, n4, en⟩ : ∃ (n : Nat) (g : Nat → Int32), n ≤ 400 ∧ hp.2 (89 + 3 * j) = .inl (0, n, .inl g) := c1
  obtain ⟨f, el⟩ : ∃ f : Nat → Int64, hp.2 (90 + 3 * j) = .inl (3, 64, .inr (.inl f)) := c2
  obtain ⟨f13, e13, b13⟩ : ∃ f : Nat → Option Nat, hp.2 13 = .inl (4, 6, .inr (.inr (.inr (.inr f)))) ∧ ∀ j, j < 6 → f j = none ∨ ∃ k : Nat, f j = some (88 + 3 * k) ∧ 88 + 3 * k + 2 < hp.1 := c13
  have nl : n = o.length := by
    rw [show 88 + 3 * j + 1 = 89 + 3 * j by omega] at q3
    unfold yrd at q3
    rw [en] at q3
    dsimp only at q3
    rw [if_pos (by decide), if_pos (by omega)] at q3
    have q3 := Value.int.inj (Option.some.inj q3)
    have z := congrArg Int32.toInt q3
    rw [nJ (by omega), nJ (by omega)] at z
    omega
  refine ⟨⟨⟨H.1, q2, h9, q4⟩, by rw [e1, efs], ⟨g, ?_⟩, ⟨f, ?_⟩⟩, f13, e13, by omega, ?_⟩
  · rw [show 88 + 3 * j + 1 = 89 + 3 * j by omega, en, nl]
  · rw [show 88 + 3 * j + 2 = 90 + 3 * j by omega]
    exact el
  · rw [show ru.toNatClampNeg = j from gxn e]
    rw [yrd_f e13 (by omega), Int.toNat_natCast] at q1
    rcases b13 j j6 with z | ⟨k, z, -⟩
    · rw [z] at q1
      cases q1
    · rw [z] at q1 ⊢
      have q1 : Value.ref (88 + 3 * k) = .ref (88 + 3 * j) := Option.some.inj q1
      exact congrArg some (Value.ref.inj q1)
theorem tk_rev {f : Nat → Int32} : ∀ {n i : Nat} {x : Int}, (tk f n).reverse[i]? = some x → i < n ∧ (f i).toInt = x
  | 0, i, x, h => by cases h
  | n + 1, i, x, h => by
    have h : ((f n).toInt :: tk f n).reverse[i]? = some x := h
    rw [List.reverse_cons] at h
    by_cases z : i < n
    · rw [List.getElem?_append_left (by rw [List.length_reverse, tk_len]; exact z)] at h
      have := tk_rev h
      exact ⟨by omega, this.2⟩
    · rw [List.getElem?_append_right (by rw [List.length_reverse, tk_len]; omega), List.length_reverse, tk_len] at h
      by_cases z2 : i = n
      · subst z2
        rw [Nat.sub_self] at h
        exact ⟨by omega, Option.some.inj h⟩
      · rw [List.getElem?_eq_none (by show 1 ≤ i - n; omega)] at h
        cases h
theorem stp_of {hp : zHp} {j : Nat} {o : List Int} (C : ruC hp j o) : stp (xof hp) (88 + 3 * j) o.reverse := fun i x hi => by
  obtain ⟨-, -, -, -, g, g1, g2⟩ := C
  rw [← g2] at hi
  obtain ⟨l, e⟩ := tk_rev hi
  rw [xof_rd, g1 i l]
  exact e
section PRUNP
variable {s : Nat → Int32} {m : xS} {F : Nat}
/-- when a rule can run -/
def pRu (s : Nat → Int32) (nr : Int) (y1 y2 : Int32) : Prop := 0 < (s 0).toInt ∧ (0 ≤ y1.toInt ∧ y1.toInt < nr) ∧ (1 ≤ y2.toInt ∧ y2.toInt ≤ 60) ∧ (s 4).toInt + y2.toInt ≤ 999
theorem c140 {y1 : Int32} {rk : Bool} {r0 nn : Nat} (h : 0 ≤ y1.toInt ∧ y1.toInt < (m.1 0 8).toInt → rk = true) : D140_0_A F y1 rk r0 nn y1 m = some (pB (decide (0 ≤ y1.toInt) && decide (y1.toInt < (m.1 0 8).toInt)), m) := by
  have l0 : (0 : Int32).toInt = 0 := rfl
  unfold D140_0_A
  by_cases a : y1.toInt < 0
  · rw [decide_eq_false (by omega), Bool.false_and]
    exact oT (zcl.trans (decide_eq_true (by omega))) rfl
  · by_cases b : (m.1 0 8).toInt ≤ y1.toInt
    · rw [decide_eq_false (p := y1.toInt < _) (by omega), Bool.and_false]
      exact oF (zcl.trans (decide_eq_false (by omega))) (oT (zc.trans (decide_eq_true b)) rfl)
    · rw [decide_eq_true (p := 0 ≤ y1.toInt) (by omega), decide_eq_true (by omega)]
      exact oF (zcl.trans (decide_eq_false (by omega))) (oF (zc.trans (decide_eq_false b)) (oT (by rw [h (by omega), beq_self_eq_true]; rfl) rfl))
theorem c139n (R : R32 s (m.1 10)) (I : vI9 s) {y1 y2 : Int32} {rk : Bool} {r0 nn : Nat} (h : 0 ≤ y1.toInt ∧ y1.toInt < (m.1 0 8).toInt → rk = true) (n : ¬ pRu s (m.1 0 8).toInt y1 y2) : D139_0_A F y1 rk r0 nn y1 y2 m = some (-1, m) := by
  have l1 : (1 : Int32).toInt = 1 := rfl
  have l60 : (60 : Int32).toInt = 60 := rfl
  have l999 : (999 : Int32).toInt = 999 := rfl
  have d0 := I_day I.1
  unfold D139_0_A
  by_cases a : 0 < (s 0).toInt
  · refine ob (c76_9 R) (oF (zeF (decide_eq_true a)) (ob (c140 h) ?_))
    by_cases b : 0 ≤ y1.toInt ∧ y1.toInt < (m.1 0 8).toInt
    · refine oF (zeF (by rw [decide_eq_true b.1, decide_eq_true b.2]; rfl)) ?_
      by_cases c : y2.toInt < 1
      · exact oT (zcl.trans (decide_eq_true (by omega))) rfl
      · refine oF (zcl.trans (decide_eq_false (by omega))) ?_
        by_cases d : 60 < y2.toInt
        · exact oT (zcgt.trans (decide_eq_true (by omega))) rfl
        · refine oF (zcgt.trans (decide_eq_false (by omega))) (ob (c81_9 R) ?_)
          have e : ¬ (s 4).toInt + y2.toInt ≤ 999 := fun z => n ⟨a, b, by omega, z⟩
          have e2 : (s 4 + y2).toInt = (s 4).toInt + y2.toInt := xa1 (by omega) (by omega)
          exact oF (zcle.trans (decide_eq_false (by show ¬ (s 4 + y2).toInt ≤ _; omega))) rfl
    · refine oT (zeT ?_) rfl
      by_cases z : 0 ≤ y1.toInt
      · rw [decide_eq_false (p := y1.toInt < (m.1 0 8).toInt) (fun q => b ⟨z, q⟩), Bool.and_false]
      · rw [decide_eq_false z, Bool.false_and]
  · exact ob (c76_9 R) (oT (zeT (decide_eq_false a)) rfl)
theorem c139p (R : R32 s (m.1 10)) (I : vI9 s) {y1 y2 : Int32} {r0 nn : Nat} (n : pRu s (m.1 0 8).toInt y1 y2) : D139_0_A F y1 true r0 nn y1 y2 m = D139_0_A_57 F y1 true r0 nn F y1 y2 (s 5) 0 m := by
  have l1 : (1 : Int32).toInt = 1 := rfl
  have l60 : (60 : Int32).toInt = 60 := rfl
  have l999 : (999 : Int32).toInt = 999 := rfl
  have d0 := I_day I.1
  obtain ⟨a, b, c, d⟩ := n
  have e2 : (s 4 + y2).toInt = (s 4).toInt + y2.toInt := xa1 (by omega) (by omega)
  unfold D139_0_A
  exact ob (c76_9 R) (oF (zeF (decide_eq_true a)) (ob (c140 (fun _ => rfl)) (oF (zeF (by rw [decide_eq_true b.1, decide_eq_true b.2]; rfl)) (oF (zcl.trans (decide_eq_false (by omega))) (oF (zcgt.trans (decide_eq_false (by omega))) (ob (c81_9 R) (oT (zcle.trans (decide_eq_true (by show (s 4 + y2).toInt ≤ _; omega))) (ob (c82_9 R) rfl))))))))
theorem r199 {y1 : Int32} : D199 F y1 m = some (pB (decide (0 ≤ y1.toInt) && decide (y1.toInt < (m.1 70 2).toInt)), m) := by
  have l0 : (0 : Int32).toInt = 0 := rfl
  unfold D199
  by_cases a : y1.toInt < 0
  · rw [decide_eq_false (by omega), Bool.false_and]
    exact oT (zcl.trans (decide_eq_true (by omega))) rfl
  · by_cases b : (m.1 70 2).toInt ≤ y1.toInt
    · rw [decide_eq_false (p := y1.toInt < _) (by omega), Bool.and_false]
      exact oF (zcl.trans (decide_eq_false (by omega))) (oT (zc.trans (decide_eq_true b)) rfl)
    · rw [decide_eq_true (p := 0 ≤ y1.toInt) (by omega), decide_eq_true (by omega)]
      exact oF (zcl.trans (decide_eq_false (by omega))) (oF (zc.trans (decide_eq_false b)) rfl)
theorem r248n (I : vI9 (m.1 80)) {y1 y2 : Int32} (n : ¬ pRu (m.1 80) (m.1 70 2).toInt y1 y2) : D248 F y1 y2 m = some (-1, m) := by
  have l999 : (999 : Int32).toInt = 999 := rfl
  have d0 := I_day I.1
  unfold D248
  by_cases a : 0 < (m.1 80 0).toInt
  · refine ob r204 (oF (zeF (decide_eq_true a)) (ob r199 ?_))
    by_cases b : 0 ≤ y1.toInt ∧ y1.toInt < (m.1 70 2).toInt
    · refine oF (zeF (by rw [decide_eq_true b.1, decide_eq_true b.2]; rfl)) (ob (r158 (x := 1) (y := 60) rfl rfl) ?_)
      by_cases c : 1 ≤ y2.toInt ∧ y2.toInt ≤ 60
      · refine oF (zeF (by rw [decide_eq_true c.1, decide_eq_true c.2]; rfl)) ?_
        have e : ¬ (m.1 80 4).toInt + y2.toInt ≤ 999 := fun z => n ⟨a, b, c, z⟩
        have e2 : (m.1 80 4 + y2).toInt = (m.1 80 4).toInt + y2.toInt := xa1 (by omega) (by omega)
        exact oF (zcle.trans (decide_eq_false (by show ¬ (m.1 80 4 + y2).toInt ≤ _; omega))) rfl
      · refine oT (zeT ?_) rfl
        by_cases z : 1 ≤ y2.toInt
        · rw [decide_eq_false (p := y2.toInt ≤ 60) (fun q => c ⟨z, q⟩), Bool.and_false]
        · rw [decide_eq_false z, Bool.false_and]
    · refine oT (zeT ?_) rfl
      by_cases z : 0 ≤ y1.toInt
      · rw [decide_eq_false (p := y1.toInt < (m.1 70 2).toInt) (fun q => b ⟨z, q⟩), Bool.and_false]
      · rw [decide_eq_false z, Bool.false_and]
  · exact ob r204 (oT (zeT (decide_eq_false a)) rfl)
theorem r248p (I : vI9 (m.1 80)) {y1 y2 : Int32} (n : pRu (m.1 80) (m.1 70 2).toInt y1 y2) : D248 F y1 y2 m = D248_53 F F y1 y2 0 0 (xu m 70 25 0) := by
  have l999 : (999 : Int32).toInt = 999 := rfl
  have d0 := I_day I.1
  obtain ⟨a, b, c, d⟩ := n
  have e2 : (m.1 80 4 + y2).toInt = (m.1 80 4).toInt + y2.toInt := xa1 (by omega) (by omega)
  unfold D248
  exact ob r204 (oF (zeF (decide_eq_true a)) (ob r199 (oF (zeF (by rw [decide_eq_true b.1, decide_eq_true b.2]; rfl)) (ob (r158 (x := 1) (y := 60) rfl rfl) (oF (zeF (by rw [decide_eq_true c.1, decide_eq_true c.2]; rfl)) (oT (zcle.trans (decide_eq_true (by show (m.1 80 4 + y2).toInt ≤ _; omega))) rfl))))))
end PRUNP
end
section
/-! run, as a pair. -/
theorem ruC_d {hp x : zHp} {j : Nat} {o : List Int} (h13 : x.2 13 = hp.2 13) (h1 : x.2 (88 + 3 * j + 1) = hp.2 (88 + 3 * j + 1)) (l : x.1 = hp.1) (k : ruC hp j o) : ruC x j o := by
  obtain ⟨q1, q2, q3, q4, q5, q6, q7⟩ := k
  exact ⟨(yrd_eq h13 (fun _ => by rw [l])).trans q1, by rw [l]; exact q2, (yrd_eq h1 (fun _ => by rw [l])).trans q3, q4, q5, fun i hi => (yrd_eq h1 (fun _ => by rw [l])).trans (q6 i hi), q7⟩
theorem nRun {y1 y2 : Int32} : lP MR 139 248 [.int y1, .int y2] true := fun hp hI => by
  obtain ⟨x1, x2, z1, z2, a1, a2, a3, a4, a5, a6, a7, -⟩ := e0_15 (y1 := y1) (y2 := y2) hp hI.1.1
  have a3 : zCan 20 139 [.ref 0, .int y1, .int y2] hp (some (.int x1), z1) := a3
  have a5 : zCan 20 248 [.ref 70, .int y1, .int y2] z1 (some (.int x2), z2) := a5
  obtain ⟨x3, w1, b1, b2, -⟩ := eSp (yt1293 yXx.1) (c := 0) (na := 2) (bl := []) (by decide +kernel) hI.1.1.1 (ys := [y1, y2]) rfl (fun s hs => by cases hs)
  have u := zCan_u a3 b1
  cases u
  obtain ⟨⟨R, I⟩, ⟨n, h, M2, M3, M4⟩, M5, M6⟩ := hI.1.2
  have H := hI.1.1.1.1
  have hT := xT_of H
  have b8 : (0 : Int) ≤ ((xof hp).1 0 8).toInt ∧ ((xof hp).1 0 8).toInt ≤ 6 := hT 0 8 (0, 6) rfl
  have e2 : ((xof hp).1 70 2).toInt = ((xof hp).1 0 8).toInt := hI.1.1.2.2.1
  by_cases P : pRu ((xof hp).1 80) ((xof hp).1 0 8).toInt y1 y2
  · have P' := P
    obtain ⟨p0, ⟨p1, p2⟩, ⟨p3, p4⟩, p5⟩ := P'
    obtain ⟨j, hj⟩ : ∃ j : Nat, y1.toInt = (j : Int) := ⟨y1.toInt.toNat, by omega⟩
    obtain ⟨d, hd⟩ : ∃ d : Nat, y2.toInt = (d : Int) := ⟨y2.toInt.toNat, by omega⟩
    have ey1 : y1 = Int32.ofNat j := ofn_i hj (by omega)
    have ey2 : y2 = Int32.ofNat d := ofn_i hd (by omega)
    obtain ⟨o, C, CL, Q, q1, q2, q3, q4, q5⟩ := hI.2 j (by omega)
    have A := rlA_of H C (by omega) hj
    have G : ∀ w, cgd w o.reverse [] := fun w => by
      have z := cgd_out (w := w) (rest := []) q3 (by rw [← q4]; exact q5) trivial
      rw [List.append_nil, ← q4] at z
      exact z
    have esm : smC o.reverse = smR CL := by
      funext s t h
      show csum _ o.reverse [] = sumE _ CL
      rw [sumE_csum q2 q3, q4]
    obtain ⟨m', d1, d2, d3, d4, d5⟩ := c139_57 (F := 500) (Nat.le_refl _) (r0 := 88 + 3 * j) (by omega) C.2.2.2.1 List.length_reverse G (ru := y1) (v3 := (xof hp).1 80 5) ey2 (by omega) 500 (s := (xof hp).1 80) (m := xof hp) (i := 0) I.1 R (stp_of C) (by omega) (Nat.zero_le _) (by omega)
    rw [Nat.sub_zero] at d1 d2 d3 d4
    have u := Z139_0_A H (F := 500) (ru := y1) (rk := true) (r0 := 88 + 3 * j) (nn := o.length) (fun _ => A) ((c139p R I P).trans d1) (d := 20) (by decide)
    rw [xW_of] at u
    have u := zCan_u a3 u
    cases u
    have w := xrw_of H (xu m' 14 2 0)
    generalize hz : xW hp (xu m' 14 2 0) = z1 at *
    have g0 : ∀ i k l, i ≠ 10 → i ≠ 14 → xta i k l = true → (xof z1).1 i = (xof hp).1 i := fun i k l e1 e2 ht => (w.1 i k l ht).trans ((xu_row e2).trans (d5.1 i e1))
    have g1 : ∀ i a b, i ≠ 10 → i ≠ 14 → xti i a b = true → (xof z1).1 i b = (xof hp).1 i b := fun i a b e1 e2 ht => (w.2 i a b ht).trans ((congrFun (xu_row e2) b).trans (congrFun (d5.1 i e1) b))
    have e80 : (xof z1).1 80 = (xof hp).1 80 := g0 80 0 148 (by decide) (by decide) (by decide)
    have c72 : (xof z1).1 72 = (xof hp).1 72 := g0 72 0 2400 (by decide) (by decide) (by decide)
    have c74 : (xof z1).1 74 = (xof hp).1 74 := g0 74 0 288 (by decide) (by decide) (by decide)
    have c75 : (xof z1).1 75 = (xof hp).1 75 := g0 75 0 6 (by decide) (by decide) (by decide)
    have e702 : (xof z1).1 70 2 = (xof hp).1 70 2 := g1 70 11 2 (by decide) (by decide) (by decide)
    have CA : cAll (xof z1) j CL := cAll_f c72 c74 c75 q1
    have P2 : pRu ((xof z1).1 80) ((xof z1).1 70 2).toInt y1 y2 := by rw [e80, e702, e2]; exact P
    obtain ⟨m2, f1, f2, f3⟩ := r248_53 (F := 500) (Nat.le_refl _) (r := j) (by omega) (cs := CL) ey2 (by omega) 500 (s := (xof hp).1 80) (m := xu (xof z1) 70 25 0) (i := 0) (v := 0) ((xu_row (by decide)).trans e80) I.1 (by omega) (cAll_f (xu_row (by decide)) (xu_row (by decide)) (xu_row (by decide)) CA) (Nat.zero_le _) (by omega)
    rw [Nat.sub_zero, ← esm] at f1 f2
    rw [← ey1] at f1
    have u2 := Z248 b2.1 ((r248p (by rw [e80]; exact I) P2).trans f1) (d := 20) (by decide)
    rw [xW_of] at u2
    have u2 := zCan_u a5 u2
    cases u2
    have h0 : ∀ i k l, i ≠ 10 → i ≠ 14 → i ≠ 70 → i ≠ 80 → xta i k l = true → m2.1 i = (xof hp).1 i := fun i k l e1 e2 e3 e4 ht => (funext fun b => f3.1 i b e4 (fun y => e3 y.1)).trans ((xu_row e3).trans (g0 i k l e1 e2 ht))
    have h70 : ∀ b, b ≠ 20 → b ≠ 25 → xti 70 11 b = true → m2.1 70 b = (xof hp).1 70 b := fun b e1 e2 ht => (f3.1 70 b (by decide) (fun y => e1 y.2)).trans ((xu_o (fun y => e2 y.2)).trans (g1 70 11 b (by decide) (by decide) ht))
    have e10 : m2.1 10 = m'.1 10 := (funext fun b => f3.1 10 b (by decide) (fun y => absurd y.1 (by decide))).trans ((xu_row (by decide)).trans ((w.1 10 0 114 (by decide)).trans (xu_row (by decide))))
    have e14 : ∀ b, xti 14 2 b = true → m2.1 14 b = (xu m' 14 2 0).1 14 b := fun b ht => (f3.1 14 b (by decide) (fun y => absurd y.1 (by decide))).trans ((congrFun (xu_row (by decide)) b).trans (w.2 14 2 b ht))
    have e43 : m2.1 43 0 = (xof hp).1 43 0 := (f3.1 43 0 (by decide) (fun y => absurd y.1 (by decide))).trans ((congrFun (xu_row (by decide)) 0).trans (g1 43 1 0 (by decide) (by decide) (by decide)))
    have M : rMx m2 := by
      refine ⟨⟨by rw [f2, e10]; exact d2, by rw [f2]; exact ⟨d3, by rw [d4]; omega⟩⟩, ⟨n, 0, ⟨M2.1, by omega⟩, ⟨?_, ?_, ?_⟩, fun j hj => absurd hj (Nat.not_lt_zero j)⟩, fun k hk => ?_, ?_⟩
      · rw [e14 1 (by decide), xu_o (by decide), d5.1 14 (by decide)]
        exact M3.1
      · rw [e14 2 (by decide), xu_s]
        rfl
      · rw [f3.1 70 25 (by decide) (by decide), xu_s]
        rfl
      · rw [h0 87 2 4 (by decide) (by decide) (by decide) (by decide) (by decide), h0 42 2 4 (by decide) (by decide) (by decide) (by decide) (by decide), h0 85 0 592 (by decide) (by decide) (by decide) (by decide) (by decide), h0 86 0 4 (by decide) (by decide) (by decide) (by decide) (by decide), h0 41 0 4 (by decide) (by decide) (by decide) (by decide) (by decide), h0 (37 + k) 0 114 (by omega) (by omega) (by omega) (by omega) (xtS37_4 ⟨by omega, by omega⟩)]
        exact M5 k hk
      · rw [h70 23 (by decide) (by decide) (by decide), e43]
        exact M6
    refine ⟨_, _, _, _, a1, a2, a3, a4, a5, a6, ⟨⟨a7, rMx_w (xrw_of b2.1 m2) M⟩, fun k hk => ?_⟩, fun _ => by rw [Int32.zero_add]⟩
    have e08 : (xof (xW z1 m2)).1 0 8 = (xof hp).1 0 8 := (xof_f b2.1 (show xti 0 10 8 = true by decide)).trans ((f3.1 0 8 (by decide) (fun y => absurd y.1 (by decide))).trans ((congrFun (xu_row (by decide)) 8).trans (g1 0 10 8 (by decide) (by decide) (by decide))))
    rw [e08] at hk
    obtain ⟨o', C', r'⟩ := hI.2 k hk
    have cell : ∀ i, i ≠ 10 → i ≠ 14 → i ≠ 70 → i ≠ 78 → i ≠ 79 → i ≠ 80 → i ≠ 88 + 3 * j + 2 → (xW z1 m2).2 i = hp.2 i := fun i e1 e2 e3 e4 e5 e6 e7 => by
      have t1 : (xW z1 m2).2 i = z1.2 i := xW_2 (fun b => (f3.1 i b e6 (fun y => e3 y.1)).trans (congrFun (xu_row e3) b)) (fun b => f3.2 i b e4 e5)
      rw [t1, ← hz]
      exact xW_2 (fun b => (congrFun (xu_row e2) b).trans (congrFun (d5.1 i e1) b)) (fun b => d5.2 i b e7)
    have n1 : (xW z1 m2).1 = hp.1 := by
      show z1.1 = hp.1
      rw [← hz]
      rfl
    refine ⟨o', ruC_d (cell 13 (by decide) (by decide) (by decide) (by decide) (by decide) (by decide) (by omega)) (cell (88 + 3 * k + 1) (by omega) (by omega) (by omega) (by omega) (by omega) (by omega) (by omega)) n1 C', ruR_o (fun l _ _ => ?_) (fun l _ _ => ?_) ?_ r'⟩
    · rw [xof_t b2.1 (k := 0) (n := 2400) (by decide), h0 72 0 2400 (by decide) (by decide) (by decide) (by decide) (by decide)]
    · rw [xof_t b2.1 (k := 0) (n := 288) (by decide), h0 74 0 288 (by decide) (by decide) (by decide) (by decide) (by decide)]
    · rw [xof_t b2.1 (k := 0) (n := 6) (by decide), h0 75 0 6 (by decide) (by decide) (by decide) (by decide) (by decide)]
  · have zc1 : zCan 20 139 [.ref 0, .int y1, .int y2] hp (some (.int (-1)), hp) := by
      by_cases v : 0 ≤ y1.toInt ∧ y1.toInt < ((xof hp).1 0 8).toInt
      · obtain ⟨j, hj⟩ : ∃ j : Nat, y1.toInt = (j : Int) := ⟨y1.toInt.toNat, by omega⟩
        obtain ⟨o, C, -⟩ := hI.2 j (by omega)
        have A := rlA_of H C (by omega) hj
        have u := Z139_0_A H (F := 500) (ru := y1) (rk := true) (r0 := 88 + 3 * j) (nn := o.length) (fun _ => A) (c139n R I (fun _ => rfl) P) (d := 20) (by decide)
        rw [xW_of] at u
        exact u
      · have u := Z139_0_A H (F := 500) (ru := y1) (rk := false) (r0 := 0) (nn := 0) (fun z => by cases z) (c139n R I (fun z => absurd z v) P) (d := 20) (by decide)
        rw [xW_of] at u
        exact u
    have u := zCan_u a3 zc1
    cases u
    have u2 := Z248 H (F := 500) (r248n I (by rw [e2]; exact P)) (d := 20) (by decide)
    rw [xW_of] at u2
    have u2 := zCan_u a5 u2
    cases u2
    exact ⟨_, _, _, _, a1, a2, a3, a4, a5, a6, hI, fun _ => rfl⟩
end
section
/-! Methods as functions over the memory. -/
set_option maxRecDepth 4000 in
theorem xg249 : zg zms 249 = some (zm249.2.2.1, zm249.2.2.2.1, zc249) := rfl
theorem xr249 : zar 249 = (4, 11) := by decide +kernel
set_option maxRecDepth 4000 in
theorem xg250 : zg zms 250 = some (zm250.2.2.1, zm250.2.2.2.1, zc250) := rfl
theorem xr250 : zar 250 = (3, 11) := by decide +kernel
set_option maxRecDepth 4000 in
theorem xg251 : zg zms 251 = some (zm251.2.2.1, zm251.2.2.2.1, zc251) := rfl
theorem xr251 : zar 251 = (3, 11) := by decide +kernel
set_option maxRecDepth 4000 in
theorem xg252 : zg zms 252 = some (zm252.2.2.1, zm252.2.2.2.1, zc252) := rfl
theorem xr252 : zar 252 = (4, 11) := by decide +kernel
set_option maxRecDepth 4000 in
theorem xg253 : zg zms 253 = some (zm253.2.2.1, zm253.2.2.2.1, zc253) := rfl
theorem xr253 : zar 253 = (1, 11) := by decide +kernel
set_option maxRecDepth 4000 in
theorem xg254 : zg zms 254 = some (zm254.2.2.1, zm254.2.2.2.1, zc254) := rfl
theorem xr254 : zar 254 = (2, 11) := by decide +kernel
set_option maxRecDepth 4000 in
theorem xg255 : zg zms 255 = some (zm255.2.2.1, zm255.2.2.2.1, zc255) := rfl
theorem xr255 : zar 255 = (1, 11) := by decide +kernel
set_option maxRecDepth 4000 in
theorem xg256 : zg zms 256 = some (zm256.2.2.1, zm256.2.2.2.1, zc256) := rfl
theorem xr256 : zar 256 = (1, 11) := by decide +kernel
set_option maxRecDepth 4000 in
theorem xg257 : zg zms 257 = some (zm257.2.2.1, zm257.2.2.2.1, zc257) := rfl
theorem xr257 : zar 257 = (1, 11) := by decide +kernel
set_option maxRecDepth 4000 in
theorem xg258 : zg zms 258 = some (zm258.2.2.1, zm258.2.2.2.1, zc258) := rfl
theorem xr258 : zar 258 = (1, 11) := by decide +kernel
set_option maxRecDepth 4000 in
theorem xg261 : zg zms 261 = some (zm261.2.2.1, zm261.2.2.2.1, zc261) := rfl
theorem xr261 : zar 261 = (2, 11) := by decide +kernel
set_option maxRecDepth 4000 in
theorem xg262 : zg zms 262 = some (zm262.2.2.1, zm262.2.2.2.1, zc262) := rfl
theorem xr262 : zar 262 = (1, 11) := by decide +kernel
set_option maxRecDepth 4000 in
theorem xg270 : zg zms 270 = some (zm270.2.2.1, zm270.2.2.2.1, zc270) := rfl
theorem xr270 : zar 270 = (2, 11) := by decide +kernel
set_option maxRecDepth 4000 in
theorem xg271 : zg zms 271 = some (zm271.2.2.1, zm271.2.2.2.1, zc271) := rfl
theorem xr271 : zar 271 = (2, 11) := by decide +kernel
set_option maxRecDepth 4000 in
theorem xg272 : zg zms 272 = some (zm272.2.2.1, zm272.2.2.2.1, zc272) := rfl
theorem xr272 : zar 272 = (1, 11) := by decide +kernel
/-- LentToolsModel.isChain -/
def D249_25 (F : Nat) (v1 : Int32) (v2 : Int32) (v3 : Int32) (v4 : Int32) (m : xS) : Option (Int32 × xS) :=
  some (0, m)
set_option maxRecDepth 20000 in
theorem T249_25 {B : zHp} (H : yH0 B) {e : Nat} (he : 4 ≤ e + 1) (F : Nat) {v1 : Int32} {v2 : Int32} {v3 : Int32} {v4 : Int32} {lv : List (Nat × Value)} {m : xS} {x : Int32 × xS} (l0 : zld lv 0 = some (.ref 70)) (l1 : zld lv 1 = some (.int v1)) (l2 : zld lv 2 = some (.int v2)) (l3 : zld lv 3 = some (.int v3)) (l4 : zld lv 4 = some (.int v4)) (h : D249_25 F v1 v2 v3 v4 m = some x) : zR none e 5 (some .boolean) zc249 (25, lv, []) (xW B m) (some (.int x.1), xW B x.2) := by
  unfold D249_25 at h
  refine r_s (fr' := (26, lv, [.int 0])) (hp' := xW B m) (q := (.iconst 0, 1, 0, 0, .null)) rfl (fun _ => rfl) (Nat.le_refl _) ?_
  obtain rfl := Option.some.inj h
  exact q_ri (q := (.ireturn, 1, 0, 0, .null)) rfl (fun _ => rfl) rfl rfl
def D249_59 (F : Nat) (v1 : Int32) (v2 : Int32) (v3 : Int32) (v4 : Int32) (m : xS) : Option (Int32 × xS) :=
  some (0, m)
set_option maxRecDepth 20000 in
theorem T249_59 {B : zHp} (H : yH0 B) {e : Nat} (he : 4 ≤ e + 1) (F : Nat) {v1 : Int32} {v2 : Int32} {v3 : Int32} {v4 : Int32} {lv : List (Nat × Value)} {m : xS} {x : Int32 × xS} (l0 : zld lv 0 = some (.ref 70)) (l1 : zld lv 1 = some (.int v1)) (l2 : zld lv 2 = some (.int v2)) (l3 : zld lv 3 = some (.int v3)) (l4 : zld lv 4 = some (.int v4)) (h : D249_59 F v1 v2 v3 v4 m = some x) : zR none e 5 (some .boolean) zc249 (59, lv, []) (xW B m) (some (.int x.1), xW B x.2) := by
  unfold D249_59 at h
  refine r_s (fr' := (60, lv, [.int 0])) (hp' := xW B m) (q := (.iconst 0, 1, 0, 0, .null)) rfl (fun _ => rfl) (Nat.le_refl _) ?_
  obtain rfl := Option.some.inj h
  exact q_ri (q := (.ireturn, 1, 0, 0, .null)) rfl (fun _ => rfl) rfl rfl
def D249 (F : Nat) (v1 : Int32) (v2 : Int32) (v3 : Int32) (v4 : Int32) (m : xS) : Option (Int32 × xS) :=
  (D236 F v3 v4 (v4 - 1) m).bind fun q8 =>
    if zcmp .ne q8.1 v2 = true then
      D249_25 F v1 v2 v3 v4 q8.2
    else
      (D237 F v3 v4 q8.2).bind fun q19 =>
        if zcmp .ne q19.1 0 = true then
          (D208 F v1 0 q19.2).bind fun q34 =>
            (D238 F v3 v4 q34.1 q34.2).bind fun q37 =>
              if zcmp .ne q37.1 0 = true then
                D249_59 F v1 v2 v3 v4 q37.2
              else
                (D208 F v1 3 q37.2).bind fun q50 =>
                  (D238 F v3 v4 q50.1 q50.2).bind fun q53 =>
                    if zcmp .eq q53.1 0 = true then
                      (D208 F v1 3 q53.2).bind fun q65 =>
                        (D239 F q65.1 v3 v4 q65.2).bind fun q71 =>
                          if xbo q71.1 = true then
                            some (q71.1, q71.2)
                          else none
                    else
                      D249_59 F v1 v2 v3 v4 q53.2
        else
          D249_25 F v1 v2 v3 v4 q19.2
set_option maxRecDepth 20000 in
theorem T249 {B : zHp} (H : yH0 B) {e : Nat} (he : 4 ≤ e + 1) (F : Nat) {v1 : Int32} {v2 : Int32} {v3 : Int32} {v4 : Int32} {lv : List (Nat × Value)} {m : xS} {x : Int32 × xS} (l0 : zld lv 0 = some (.ref 70)) (l1 : zld lv 1 = some (.int v1)) (l2 : zld lv 2 = some (.int v2)) (l3 : zld lv 3 = some (.int v3)) (l4 : zld lv 4 = some (.int v4)) (h : D249 F v1 v2 v3 v4 m = some x) : zR none e 5 (some .boolean) zc249 (0, lv, []) (xW B m) (some (.int x.1), xW B x.2) := by
  unfold D249 at h
  refine q_lr (k := 1) (i := 0) (q := (.aload_n 0, 1, 0, 0, .null)) rfl (fun _ => rfl) l0 ?_
  refine q_li (k := 1) (i := 3) (q := (.iload_n 3, 1, 0, 0, .null)) rfl (fun _ => rfl) l3 ?_
  refine q_li (k := 2) (i := 4) (q := (.iload 4, 2, 0, 0, .null)) rfl (fun _ => rfl) l4 ?_
  refine q_li (k := 2) (i := 4) (q := (.iload 4, 2, 0, 0, .null)) rfl (fun _ => rfl) l4 ?_
  refine r_s (fr' := (7, lv, [.int 1, .int v4, .int v4, .int v3, .ref 70])) (hp' := xW B m) (q := (.iconst 1, 1, 0, 0, .null)) rfl (fun _ => rfl) (Nat.le_refl _) ?_
  refine r_s (fr' := (8, lv, [.int (v4 - 1), .int v4, .int v3, .ref 70])) (hp' := xW B m) (q := (.isub, 1, 0, 0, .null)) rfl (fun _ => rfl) (Nat.le_refl _) ?_
  obtain ⟨q8, h8, h⟩ := xbind h
  refine r_call (ix := 70) (as := [.int v3, .int v4, .int (v4 - 1)]) (rest := []) (rv := some (.int q8.1)) (hp' := xW B q8.2) (pc := 8) rfl xr236 rfl rfl rfl (xkd H (by decide)) (Nat.le_of_ble_eq_true rfl) (Z236 H h8 (by omega)) (Nat.le_refl _) ?_
  refine q_li (k := 1) (i := 2) (q := (.iload_n 2, 1, 0, 0, .null)) rfl (fun _ => rfl) l2 ?_
  refine r_ifc (len := 3) (a := 25) (b := 0) (v0 := .null) (cn := .ne) (off := 13) rfl (fun c => ?_) (fun c => ?_)
  · rw [if_pos c] at h
    exact T249_25 H he F l0 l1 l2 l3 l4 h
  · rw [if_neg (by rw [c]; decide)] at h
    refine q_lr (k := 1) (i := 0) (q := (.aload_n 0, 1, 0, 0, .null)) rfl (fun _ => rfl) l0 ?_
    refine q_li (k := 1) (i := 3) (q := (.iload_n 3, 1, 0, 0, .null)) rfl (fun _ => rfl) l3 ?_
    refine q_li (k := 2) (i := 4) (q := (.iload 4, 2, 0, 0, .null)) rfl (fun _ => rfl) l4 ?_
    obtain ⟨q19, h19, h⟩ := xbind h
    refine r_call (ix := 70) (as := [.int v3, .int v4]) (rest := []) (rv := some (.int q19.1)) (hp' := xW B q19.2) (pc := 19) rfl xr237 rfl rfl rfl (xkd H (by decide)) (Nat.le_of_ble_eq_true rfl) (Z237 H h19 (by omega)) (Nat.le_refl _) ?_
    refine r_if (len := 3) (a := 27) (b := 0) (v0 := .null) (cn := .ne) (off := 5) rfl (fun c => ?_) (fun c => ?_)
    · rw [if_pos c] at h
      refine q_lr (k := 1) (i := 0) (q := (.aload_n 0, 1, 0, 0, .null)) rfl (fun _ => rfl) l0 ?_
      refine q_li (k := 1) (i := 3) (q := (.iload_n 3, 1, 0, 0, .null)) rfl (fun _ => rfl) l3 ?_
      refine q_li (k := 2) (i := 4) (q := (.iload 4, 2, 0, 0, .null)) rfl (fun _ => rfl) l4 ?_
      refine q_lr (k := 1) (i := 0) (q := (.aload_n 0, 1, 0, 0, .null)) rfl (fun _ => rfl) l0 ?_
      refine q_li (k := 1) (i := 1) (q := (.iload_n 1, 1, 0, 0, .null)) rfl (fun _ => rfl) l1 ?_
      refine r_s (fr' := (34, lv, [.int 0, .int v1, .ref 70, .int v4, .int v3, .ref 70])) (hp' := xW B q19.2) (q := (.iconst 0, 1, 0, 0, .null)) rfl (fun _ => rfl) (Nat.le_refl _) ?_
      obtain ⟨q34, h34, h⟩ := xbind h
      refine r_call (ix := 70) (as := [.int v1, .int 0]) (rest := [.int v4, .int v3, .ref 70]) (rv := some (.int q34.1)) (hp' := xW B q34.2) (pc := 34) rfl xr208 rfl rfl rfl (xkd H (by decide)) (Nat.le_of_ble_eq_true rfl) (Z208 H h34 (by omega)) (Nat.le_refl _) ?_
      obtain ⟨q37, h37, h⟩ := xbind h
      refine r_call (ix := 70) (as := [.int v3, .int v4, .int q34.1]) (rest := []) (rv := some (.int q37.1)) (hp' := xW B q37.2) (pc := 37) rfl xr238 rfl rfl rfl (xkd H (by decide)) (Nat.le_of_ble_eq_true rfl) (Z238 H h37 (by omega)) (Nat.le_refl _) ?_
      refine r_if (len := 3) (a := 59) (b := 0) (v0 := .null) (cn := .ne) (off := 19) rfl (fun c => ?_) (fun c => ?_)
      · rw [if_pos c] at h
        exact T249_59 H he F l0 l1 l2 l3 l4 h
      · rw [if_neg (by rw [c]; decide)] at h
        refine q_lr (k := 1) (i := 0) (q := (.aload_n 0, 1, 0, 0, .null)) rfl (fun _ => rfl) l0 ?_
        refine q_li (k := 1) (i := 3) (q := (.iload_n 3, 1, 0, 0, .null)) rfl (fun _ => rfl) l3 ?_
        refine q_li (k := 2) (i := 4) (q := (.iload 4, 2, 0, 0, .null)) rfl (fun _ => rfl) l4 ?_
        refine q_lr (k := 1) (i := 0) (q := (.aload_n 0, 1, 0, 0, .null)) rfl (fun _ => rfl) l0 ?_
        refine q_li (k := 1) (i := 1) (q := (.iload_n 1, 1, 0, 0, .null)) rfl (fun _ => rfl) l1 ?_
        refine r_s (fr' := (50, lv, [.int 3, .int v1, .ref 70, .int v4, .int v3, .ref 70])) (hp' := xW B q37.2) (q := (.iconst 3, 1, 0, 0, .null)) rfl (fun _ => rfl) (Nat.le_refl _) ?_
        obtain ⟨q50, h50, h⟩ := xbind h
        refine r_call (ix := 70) (as := [.int v1, .int 3]) (rest := [.int v4, .int v3, .ref 70]) (rv := some (.int q50.1)) (hp' := xW B q50.2) (pc := 50) rfl xr208 rfl rfl rfl (xkd H (by decide)) (Nat.le_of_ble_eq_true rfl) (Z208 H h50 (by omega)) (Nat.le_refl _) ?_
        obtain ⟨q53, h53, h⟩ := xbind h
        refine r_call (ix := 70) (as := [.int v3, .int v4, .int q50.1]) (rest := []) (rv := some (.int q53.1)) (hp' := xW B q53.2) (pc := 53) rfl xr238 rfl rfl rfl (xkd H (by decide)) (Nat.le_of_ble_eq_true rfl) (Z238 H h53 (by omega)) (Nat.le_refl _) ?_
        refine r_if (len := 3) (a := 61) (b := 0) (v0 := .null) (cn := .eq) (off := 5) rfl (fun c => ?_) (fun c => ?_)
        · rw [if_pos c] at h
          refine q_lr (k := 1) (i := 0) (q := (.aload_n 0, 1, 0, 0, .null)) rfl (fun _ => rfl) l0 ?_
          refine q_lr (k := 1) (i := 0) (q := (.aload_n 0, 1, 0, 0, .null)) rfl (fun _ => rfl) l0 ?_
          refine q_li (k := 1) (i := 1) (q := (.iload_n 1, 1, 0, 0, .null)) rfl (fun _ => rfl) l1 ?_
          refine r_s (fr' := (65, lv, [.int 3, .int v1, .ref 70, .ref 70])) (hp' := xW B q53.2) (q := (.iconst 3, 1, 0, 0, .null)) rfl (fun _ => rfl) (Nat.le_refl _) ?_
          obtain ⟨q65, h65, h⟩ := xbind h
          refine r_call (ix := 70) (as := [.int v1, .int 3]) (rest := [.ref 70]) (rv := some (.int q65.1)) (hp' := xW B q65.2) (pc := 65) rfl xr208 rfl rfl rfl (xkd H (by decide)) (Nat.le_of_ble_eq_true rfl) (Z208 H h65 (by omega)) (Nat.le_refl _) ?_
          refine q_li (k := 1) (i := 3) (q := (.iload_n 3, 1, 0, 0, .null)) rfl (fun _ => rfl) l3 ?_
          refine q_li (k := 2) (i := 4) (q := (.iload 4, 2, 0, 0, .null)) rfl (fun _ => rfl) l4 ?_
          obtain ⟨q71, h71, h⟩ := xbind h
          refine r_call (ix := 70) (as := [.int q65.1, .int v3, .int v4]) (rest := []) (rv := some (.int q71.1)) (hp' := xW B q71.2) (pc := 71) rfl xr239 rfl rfl rfl (xkd H (by decide)) (Nat.le_of_ble_eq_true rfl) (Z239 H h71 (by omega)) (Nat.le_refl _) ?_
          obtain ⟨c1, h⟩ := xif h
          obtain rfl := Option.some.inj h
          exact q_ri (q := (.ireturn, 1, 0, 0, .null)) rfl (fun _ => rfl) rfl (xbo_ok c1)
        · rw [if_neg (by rw [c]; decide)] at h
          exact T249_59 H he F l0 l1 l2 l3 l4 h
    · rw [if_neg (by rw [c]; decide)] at h
      exact T249_25 H he F l0 l1 l2 l3 l4 h
set_option maxRecDepth 20000 in
theorem Z249 {B : zHp} (H : yH0 B) {F : Nat} {a1 : Int32} {a2 : Int32} {a3 : Int32} {a4 : Int32} {m : xS} {x : Int32 × xS} (h : D249 F a1 a2 a3 a4 m = some x) {d : Nat} (hd : 4 ≤ d) : zCan d 249 [.ref 70, .int a1, .int a2, .int a3, .int a4] (xW B m) (some (.int x.1), xW B x.2) := by
  obtain ⟨e, rfl⟩ : ∃ e, d = e + 1 := ⟨d - 1, by omega⟩
  refine zCan_body (nL := 5) (rt := (some .boolean)) (cd := zc249) (xg249) ⟨Nat.le_of_ble_eq_true rfl, by decide⟩ (Nat.le_refl _) ?_
  exact T249 H hd F rfl rfl rfl rfl rfl h
/-- LentToolsModel.hasChain -/
def D250_3 (F : Nat) : Nat → Int32 → Int32 → Int32 → Int32 → xS → Option (Int32 × xS)
  | 0, _, _, _, _, _ => none
  | f + 1, v1, v2, v3, v4, m =>
    (D235 F (m.1 80 0) v3 m).bind fun q12 =>
      if zcmp .ge v4 q12.1 = true then
        some (0, q12.2)
      else
        (D249 F v1 v2 v4 v3 q12.2).bind fun q24 =>
          if zcmp .ne q24.1 0 = true then
            some (1, (xu q24.2 70 27 v4))
          else
            D250_3 F f v1 v2 v3 (v4 + Int32.ofInt 1) q24.2
set_option maxRecDepth 20000 in
theorem T250_3 {B : zHp} (H : yH0 B) {e : Nat} (he : 5 ≤ e + 1) (F : Nat) : ∀ (f : Nat) {v1 : Int32} {v2 : Int32} {v3 : Int32} {v4 : Int32} {lv : List (Nat × Value)} {m : xS} {x : Int32 × xS}, zld lv 0 = some (.ref 70) → zld lv 1 = some (.int v1) → zld lv 2 = some (.int v2) → zld lv 3 = some (.int v3) → zld lv 4 = some (.int v4) → D250_3 F f v1 v2 v3 v4 m = some x → zR none e 5 (some .boolean) zc250 (3, lv, []) (xW B m) (some (.int x.1), xW B x.2) := by
  intro f
  induction f with
  | zero => intro v1 v2 v3 v4 lv m x l0 l1 l2 l3 l4 h; cases h
  | succ f ih =>
    intro v1 v2 v3 v4 lv m x l0 l1 l2 l3 l4 h
    unfold D250_3 at h
    refine q_li (k := 2) (i := 4) (q := (.iload 4, 2, 0, 0, .null)) rfl (fun _ => rfl) l4 ?_
    refine q_lr (k := 1) (i := 0) (q := (.aload_n 0, 1, 0, 0, .null)) rfl (fun _ => rfl) l0 ?_
    refine r_gr (c := 80) H (pc := 6) rfl (by decide) (by decide) ?_
    refine r_s (fr' := (10, lv, [.int 0, .ref 80, .int v4])) (hp' := xW B m) (q := (.iconst 0, 1, 0, 0, .null)) rfl (fun _ => rfl) (Nat.le_refl _) ?_
    refine q_al (n := 148) (v := (m.1 80 0)) H (pc := 10) rfl (by decide) (by decide) rfl ?_
    refine q_li (k := 1) (i := 3) (q := (.iload_n 3, 1, 0, 0, .null)) rfl (fun _ => rfl) l3 ?_
    obtain ⟨q12, h12, h⟩ := xbind h
    refine r_callS (as := [.int (m.1 80 0), .int v3]) (rest := [.int v4]) (rv := some (.int q12.1)) (hp' := xW B q12.2) (pc := 12) rfl xr235 rfl rfl rfl (Nat.le_of_ble_eq_true rfl) (Z235 H h12 (by omega)) (Nat.le_refl _) ?_
    refine r_ifc (len := 3) (a := 47) (b := 0) (v0 := .null) (cn := .ge) (off := 32) rfl (fun c => ?_) (fun c => ?_)
    · rw [if_pos c] at h
      refine r_s (fr' := (48, lv, [.int 0])) (hp' := xW B q12.2) (q := (.iconst 0, 1, 0, 0, .null)) rfl (fun _ => rfl) (Nat.le_refl _) ?_
      obtain rfl := Option.some.inj h
      exact q_ri (q := (.ireturn, 1, 0, 0, .null)) rfl (fun _ => rfl) rfl rfl
    · rw [if_neg (by rw [c]; decide)] at h
      refine q_lr (k := 1) (i := 0) (q := (.aload_n 0, 1, 0, 0, .null)) rfl (fun _ => rfl) l0 ?_
      refine q_li (k := 1) (i := 1) (q := (.iload_n 1, 1, 0, 0, .null)) rfl (fun _ => rfl) l1 ?_
      refine q_li (k := 1) (i := 2) (q := (.iload_n 2, 1, 0, 0, .null)) rfl (fun _ => rfl) l2 ?_
      refine q_li (k := 2) (i := 4) (q := (.iload 4, 2, 0, 0, .null)) rfl (fun _ => rfl) l4 ?_
      refine q_li (k := 1) (i := 3) (q := (.iload_n 3, 1, 0, 0, .null)) rfl (fun _ => rfl) l3 ?_
      obtain ⟨q24, h24, h⟩ := xbind h
      refine r_call (ix := 70) (as := [.int v1, .int v2, .int v4, .int v3]) (rest := []) (rv := some (.int q24.1)) (hp' := xW B q24.2) (pc := 24) rfl xr249 rfl rfl rfl (xkd H (by decide)) (Nat.le_of_ble_eq_true rfl) (Z249 H h24 (by omega)) (Nat.le_refl _) ?_
      refine r_if (len := 3) (a := 33) (b := 0) (v0 := .null) (cn := .ne) (off := 6) rfl (fun c => ?_) (fun c => ?_)
      · rw [if_pos c] at h
        refine q_lr (k := 1) (i := 0) (q := (.aload_n 0, 1, 0, 0, .null)) rfl (fun _ => rfl) l0 ?_
        refine q_li (k := 2) (i := 4) (q := (.iload 4, 2, 0, 0, .null)) rfl (fun _ => rfl) l4 ?_
        refine r_pi (s2 := (xu q24.2 70 27 v4)) H (pc := 36) rfl (by decide) rfl rfl ?_
        refine r_s (fr' := (40, lv, [.int 1])) (hp' := xW B (xu q24.2 70 27 v4)) (q := (.iconst 1, 1, 0, 0, .null)) rfl (fun _ => rfl) (Nat.le_refl _) ?_
        obtain rfl := Option.some.inj h
        exact q_ri (q := (.ireturn, 1, 0, 0, .null)) rfl (fun _ => rfl) rfl rfl
      · rw [if_neg (by rw [c]; decide)] at h
        refine r_s (fr' := (41, lv, [])) (hp' := xW B q24.2) (q := (.goto 11, 3, 41, 0, .null)) rfl (fun _ => rfl) (Nat.le_refl _) ?_
        refine q_inc (i := 4) (n := 1) (q := (.iinc 4 1, 3, 0, 0, .null)) rfl (fun _ => rfl) l4 (by decide) ?_
        have l0_1 : zld (zs1 lv 4 (.int (v4 + Int32.ofInt 1))) 0 = some (.ref 70) := x_o1 l0 rfl rfl
        have l1_1 : zld (zs1 lv 4 (.int (v4 + Int32.ofInt 1))) 1 = some (.int v1) := x_o1 l1 rfl rfl
        have l2_1 : zld (zs1 lv 4 (.int (v4 + Int32.ofInt 1))) 2 = some (.int v2) := x_o1 l2 rfl rfl
        have l3_1 : zld (zs1 lv 4 (.int (v4 + Int32.ofInt 1))) 3 = some (.int v3) := x_o1 l3 rfl rfl
        have l4_1 : zld (zs1 lv 4 (.int (v4 + Int32.ofInt 1))) 4 = some (.int (v4 + Int32.ofInt 1)) := zs1_ld _ _ _
        generalize (zs1 lv 4 (.int (v4 + Int32.ofInt 1))) = lv1 at *
        refine r_s (fr' := (3, lv1, [])) (hp' := xW B q24.2) (q := (.goto (-41), 3, 3, 0, .null)) rfl (fun _ => rfl) (Nat.le_refl _) ?_
        exact ih l0_1 l1_1 l2_1 l3_1 l4_1 h
def D250 (F : Nat) (v1 : Int32) (v2 : Int32) (v3 : Int32) (m : xS) : Option (Int32 × xS) :=
  D250_3 F F v1 v2 v3 0 m
set_option maxRecDepth 20000 in
theorem T250 {B : zHp} (H : yH0 B) {e : Nat} (he : 5 ≤ e + 1) (F : Nat) {v1 : Int32} {v2 : Int32} {v3 : Int32} {lv : List (Nat × Value)} {m : xS} {x : Int32 × xS} (l0 : zld lv 0 = some (.ref 70)) (l1 : zld lv 1 = some (.int v1)) (l2 : zld lv 2 = some (.int v2)) (l3 : zld lv 3 = some (.int v3)) (h : D250 F v1 v2 v3 m = some x) : zR none e 5 (some .boolean) zc250 (0, lv, []) (xW B m) (some (.int x.1), xW B x.2) := by
  unfold D250 at h
  refine r_s (fr' := (1, lv, [.int 0])) (hp' := xW B m) (q := (.iconst 0, 1, 0, 0, .null)) rfl (fun _ => rfl) (Nat.le_refl _) ?_
  refine q_si (k := 2) (i := 4) (q := (.istore 4, 2, 0, 0, .null)) rfl (fun _ => rfl) (by decide) ?_
  have l0_1 : zld (zs1 lv 4 (.int 0)) 0 = some (.ref 70) := x_o1 l0 rfl rfl
  have l1_1 : zld (zs1 lv 4 (.int 0)) 1 = some (.int v1) := x_o1 l1 rfl rfl
  have l2_1 : zld (zs1 lv 4 (.int 0)) 2 = some (.int v2) := x_o1 l2 rfl rfl
  have l3_1 : zld (zs1 lv 4 (.int 0)) 3 = some (.int v3) := x_o1 l3 rfl rfl
  have l4_1 : zld (zs1 lv 4 (.int 0)) 4 = some (.int 0) := zs1_ld _ _ _
  generalize (zs1 lv 4 (.int 0)) = lv1 at *
  exact T250_3 H he F F l0_1 l1_1 l2_1 l3_1 l4_1 h
set_option maxRecDepth 20000 in
theorem Z250 {B : zHp} (H : yH0 B) {F : Nat} {a1 : Int32} {a2 : Int32} {a3 : Int32} {m : xS} {x : Int32 × xS} (h : D250 F a1 a2 a3 m = some x) {d : Nat} (hd : 5 ≤ d) : zCan d 250 [.ref 70, .int a1, .int a2, .int a3] (xW B m) (some (.int x.1), xW B x.2) := by
  obtain ⟨e, rfl⟩ : ∃ e, d = e + 1 := ⟨d - 1, by omega⟩
  refine zCan_body (nL := 5) (rt := (some .boolean)) (cd := zc250) (xg250) ⟨Nat.le_of_ble_eq_true rfl, by decide⟩ (Nat.le_refl _) ?_
  exact T250 H hd F rfl rfl rfl rfl h
/-- LentToolsModel.chainOf -/
def D251_60 (F : Nat) (g37 : Int32 → Int32 → Int32 → Int32 → Int32 → xS → Option (Int32 × xS)) (v1 : Int32) (v2 : Int32) (v3 : Int32) (v4 : Int32) (v5 : Int32) (w0 : Int32) (m : xS) : Option (Int32 × xS) :=
  (D250 F v1 v2 w0 m).bind fun q67 =>
    if zcmp .eq q67.1 0 = true then
      g37 v1 v2 v3 v4 (v5 + Int32.ofInt 1) q67.2
    else
      some (w0, q67.2)
set_option maxRecDepth 20000 in
theorem T251_60 {B : zHp} (H : yH0 B) {e : Nat} (he : 6 ≤ e + 1) (F : Nat) (g37 : Int32 → Int32 → Int32 → Int32 → Int32 → xS → Option (Int32 × xS)) (k37 : ∀ {v1 : Int32} {v2 : Int32} {v3 : Int32} {v4 : Int32} {v5 : Int32} {lv : List (Nat × Value)} {m : xS} {x : Int32 × xS}, zld lv 0 = some (.ref 70) → zld lv 1 = some (.int v1) → zld lv 2 = some (.int v2) → zld lv 3 = some (.int v3) → zld lv 4 = some (.int v4) → zld lv 5 = some (.int v5) → g37 v1 v2 v3 v4 v5 m = some x → zR none e 7 (some .int) zc251 (37, lv, []) (xW B m) (some (.int x.1), xW B x.2)) {v1 : Int32} {v2 : Int32} {v3 : Int32} {v4 : Int32} {v5 : Int32} {w0 : Int32} {lv : List (Nat × Value)} {m : xS} {x : Int32 × xS} (l0 : zld lv 0 = some (.ref 70)) (l1 : zld lv 1 = some (.int v1)) (l2 : zld lv 2 = some (.int v2)) (l3 : zld lv 3 = some (.int v3)) (l4 : zld lv 4 = some (.int v4)) (l5 : zld lv 5 = some (.int v5)) (h : D251_60 F g37 v1 v2 v3 v4 v5 w0 m = some x) : zR none e 7 (some .int) zc251 (60, lv, [.int w0]) (xW B m) (some (.int x.1), xW B x.2) := by
  unfold D251_60 at h
  refine q_si (k := 2) (i := 6) (q := (.istore 6, 2, 0, 0, .null)) rfl (fun _ => rfl) (by decide) ?_
  have l0_1 : zld (zs1 lv 6 (.int w0)) 0 = some (.ref 70) := x_o1 l0 rfl rfl
  have l1_1 : zld (zs1 lv 6 (.int w0)) 1 = some (.int v1) := x_o1 l1 rfl rfl
  have l2_1 : zld (zs1 lv 6 (.int w0)) 2 = some (.int v2) := x_o1 l2 rfl rfl
  have l3_1 : zld (zs1 lv 6 (.int w0)) 3 = some (.int v3) := x_o1 l3 rfl rfl
  have l4_1 : zld (zs1 lv 6 (.int w0)) 4 = some (.int v4) := x_o1 l4 rfl rfl
  have l5_1 : zld (zs1 lv 6 (.int w0)) 5 = some (.int v5) := x_o1 l5 rfl rfl
  have l6_1 : zld (zs1 lv 6 (.int w0)) 6 = some (.int w0) := zs1_ld _ _ _
  generalize (zs1 lv 6 (.int w0)) = lv1 at *
  refine q_lr (k := 1) (i := 0) (q := (.aload_n 0, 1, 0, 0, .null)) rfl (fun _ => rfl) l0_1 ?_
  refine q_li (k := 1) (i := 1) (q := (.iload_n 1, 1, 0, 0, .null)) rfl (fun _ => rfl) l1_1 ?_
  refine q_li (k := 1) (i := 2) (q := (.iload_n 2, 1, 0, 0, .null)) rfl (fun _ => rfl) l2_1 ?_
  refine q_li (k := 2) (i := 6) (q := (.iload 6, 2, 0, 0, .null)) rfl (fun _ => rfl) l6_1 ?_
  obtain ⟨q67, h67, h⟩ := xbind h
  refine r_call (ix := 70) (as := [.int v1, .int v2, .int w0]) (rest := []) (rv := some (.int q67.1)) (hp' := xW B q67.2) (pc := 67) rfl xr250 rfl rfl rfl (xkd H (by decide)) (Nat.le_of_ble_eq_true rfl) (Z250 H h67 (by omega)) (Nat.le_refl _) ?_
  refine r_if (len := 3) (a := 76) (b := 0) (v0 := .null) (cn := .eq) (off := 6) rfl (fun c => ?_) (fun c => ?_)
  · rw [if_pos c] at h
    refine q_inc (i := 5) (n := 1) (q := (.iinc 5 1, 3, 0, 0, .null)) rfl (fun _ => rfl) l5_1 (by decide) ?_
    have l0_2 : zld (zs1 lv1 5 (.int (v5 + Int32.ofInt 1))) 0 = some (.ref 70) := x_o1 l0_1 rfl rfl
    have l1_2 : zld (zs1 lv1 5 (.int (v5 + Int32.ofInt 1))) 1 = some (.int v1) := x_o1 l1_1 rfl rfl
    have l2_2 : zld (zs1 lv1 5 (.int (v5 + Int32.ofInt 1))) 2 = some (.int v2) := x_o1 l2_1 rfl rfl
    have l3_2 : zld (zs1 lv1 5 (.int (v5 + Int32.ofInt 1))) 3 = some (.int v3) := x_o1 l3_1 rfl rfl
    have l4_2 : zld (zs1 lv1 5 (.int (v5 + Int32.ofInt 1))) 4 = some (.int v4) := x_o1 l4_1 rfl rfl
    have l5_2 : zld (zs1 lv1 5 (.int (v5 + Int32.ofInt 1))) 5 = some (.int (v5 + Int32.ofInt 1)) := zs1_ld _ _ _
    have l6_2 : zld (zs1 lv1 5 (.int (v5 + Int32.ofInt 1))) 6 = some (.int w0) := x_o1 l6_1 rfl rfl
    generalize (zs1 lv1 5 (.int (v5 + Int32.ofInt 1))) = lv2 at *
    refine r_s (fr' := (37, lv2, [])) (hp' := xW B q67.2) (q := (.goto (-42), 3, 37, 0, .null)) rfl (fun _ => rfl) (Nat.le_refl _) ?_
    exact k37 l0_2 l1_2 l2_2 l3_2 l4_2 l5_2 h
  · rw [if_neg (by rw [c]; decide)] at h
    refine q_li (k := 2) (i := 6) (q := (.iload 6, 2, 0, 0, .null)) rfl (fun _ => rfl) l6_1 ?_
    obtain rfl := Option.some.inj h
    exact q_ri (q := (.ireturn, 1, 0, 0, .null)) rfl (fun _ => rfl) rfl rfl
def D251_37 (F : Nat) : Nat → Int32 → Int32 → Int32 → Int32 → Int32 → xS → Option (Int32 × xS)
  | 0, _, _, _, _, _, _ => none
  | f + 1, v1, v2, v3, v4, v5, m =>
    if zcmp .gt v5 v4 = true then
      some ((-1), m)
    else
      if zcmp .eq v3 0 = true then
        D251_60 F (D251_37 F f) v1 v2 v3 v4 v5 v5 m
      else
        D251_60 F (D251_37 F f) v1 v2 v3 v4 v5 ((v4 + 1) - v5) m
set_option maxRecDepth 20000 in
theorem T251_37 {B : zHp} (H : yH0 B) {e : Nat} (he : 6 ≤ e + 1) (F : Nat) : ∀ (f : Nat) {v1 : Int32} {v2 : Int32} {v3 : Int32} {v4 : Int32} {v5 : Int32} {lv : List (Nat × Value)} {m : xS} {x : Int32 × xS}, zld lv 0 = some (.ref 70) → zld lv 1 = some (.int v1) → zld lv 2 = some (.int v2) → zld lv 3 = some (.int v3) → zld lv 4 = some (.int v4) → zld lv 5 = some (.int v5) → D251_37 F f v1 v2 v3 v4 v5 m = some x → zR none e 7 (some .int) zc251 (37, lv, []) (xW B m) (some (.int x.1), xW B x.2) := by
  intro f
  induction f with
  | zero => intro v1 v2 v3 v4 v5 lv m x l0 l1 l2 l3 l4 l5 h; cases h
  | succ f ih =>
    intro v1 v2 v3 v4 v5 lv m x l0 l1 l2 l3 l4 l5 h
    unfold D251_37 at h
    refine q_li (k := 2) (i := 5) (q := (.iload 5, 2, 0, 0, .null)) rfl (fun _ => rfl) l5 ?_
    refine q_li (k := 2) (i := 4) (q := (.iload 4, 2, 0, 0, .null)) rfl (fun _ => rfl) l4 ?_
    refine r_ifc (len := 3) (a := 82) (b := 0) (v0 := .null) (cn := .gt) (off := 41) rfl (fun c => ?_) (fun c => ?_)
    · rw [if_pos c] at h
      refine r_s (fr' := (83, lv, [.int (-1)])) (hp' := xW B m) (q := (.iconst (-1), 1, 0, 0, .null)) rfl (fun _ => rfl) (Nat.le_refl _) ?_
      obtain rfl := Option.some.inj h
      exact q_ri (q := (.ireturn, 1, 0, 0, .null)) rfl (fun _ => rfl) rfl rfl
    · rw [if_neg (by rw [c]; decide)] at h
      refine q_li (k := 1) (i := 3) (q := (.iload_n 3, 1, 0, 0, .null)) rfl (fun _ => rfl) l3 ?_
      refine r_if (len := 3) (a := 58) (b := 0) (v0 := .null) (cn := .eq) (off := 13) rfl (fun c => ?_) (fun c => ?_)
      · rw [if_pos c] at h
        refine q_li (k := 2) (i := 5) (q := (.iload 5, 2, 0, 0, .null)) rfl (fun _ => rfl) l5 ?_
        exact T251_60 H he F _ ih l0 l1 l2 l3 l4 l5 h
      · rw [if_neg (by rw [c]; decide)] at h
        refine q_li (k := 2) (i := 4) (q := (.iload 4, 2, 0, 0, .null)) rfl (fun _ => rfl) l4 ?_
        refine r_s (fr' := (51, lv, [.int 1, .int v4])) (hp' := xW B m) (q := (.iconst 1, 1, 0, 0, .null)) rfl (fun _ => rfl) (Nat.le_refl _) ?_
        refine r_s (fr' := (52, lv, [.int (v4 + 1)])) (hp' := xW B m) (q := (.iadd, 1, 0, 0, .null)) rfl (fun _ => rfl) (Nat.le_refl _) ?_
        refine q_li (k := 2) (i := 5) (q := (.iload 5, 2, 0, 0, .null)) rfl (fun _ => rfl) l5 ?_
        refine r_s (fr' := (55, lv, [.int ((v4 + 1) - v5)])) (hp' := xW B m) (q := (.isub, 1, 0, 0, .null)) rfl (fun _ => rfl) (Nat.le_refl _) ?_
        refine r_s (fr' := (60, lv, [.int ((v4 + 1) - v5)])) (hp' := xW B m) (q := (.goto 5, 3, 60, 0, .null)) rfl (fun _ => rfl) (Nat.le_refl _) ?_
        exact T251_60 H he F _ ih l0 l1 l2 l3 l4 l5 h
def D251 (F : Nat) (v1 : Int32) (v2 : Int32) (v3 : Int32) (m : xS) : Option (Int32 × xS) :=
  (D208 F v1 3 m).bind fun q3 =>
    if zcmp .ne q3.1 v2 = true then
      (D208 F v1 0 q3.2).bind fun q15 =>
        if zcmp .ne q15.1 v2 = true then
          D251_37 F F v1 v2 v3 ((q15.2.1 80 0) - 1) 1 q15.2
        else
          some ((-1), q15.2)
    else
      some (0, q3.2)
set_option maxRecDepth 20000 in
theorem T251 {B : zHp} (H : yH0 B) {e : Nat} (he : 6 ≤ e + 1) (F : Nat) {v1 : Int32} {v2 : Int32} {v3 : Int32} {lv : List (Nat × Value)} {m : xS} {x : Int32 × xS} (l0 : zld lv 0 = some (.ref 70)) (l1 : zld lv 1 = some (.int v1)) (l2 : zld lv 2 = some (.int v2)) (l3 : zld lv 3 = some (.int v3)) (h : D251 F v1 v2 v3 m = some x) : zR none e 7 (some .int) zc251 (0, lv, []) (xW B m) (some (.int x.1), xW B x.2) := by
  unfold D251 at h
  refine q_lr (k := 1) (i := 0) (q := (.aload_n 0, 1, 0, 0, .null)) rfl (fun _ => rfl) l0 ?_
  refine q_li (k := 1) (i := 1) (q := (.iload_n 1, 1, 0, 0, .null)) rfl (fun _ => rfl) l1 ?_
  refine r_s (fr' := (3, lv, [.int 3, .int v1, .ref 70])) (hp' := xW B m) (q := (.iconst 3, 1, 0, 0, .null)) rfl (fun _ => rfl) (Nat.le_refl _) ?_
  obtain ⟨q3, h3, h⟩ := xbind h
  refine r_call (ix := 70) (as := [.int v1, .int 3]) (rest := []) (rv := some (.int q3.1)) (hp' := xW B q3.2) (pc := 3) rfl xr208 rfl rfl rfl (xkd H (by decide)) (Nat.le_of_ble_eq_true rfl) (Z208 H h3 (by omega)) (Nat.le_refl _) ?_
  refine q_li (k := 1) (i := 2) (q := (.iload_n 2, 1, 0, 0, .null)) rfl (fun _ => rfl) l2 ?_
  refine r_ifc (len := 3) (a := 12) (b := 0) (v0 := .null) (cn := .ne) (off := 5) rfl (fun c => ?_) (fun c => ?_)
  · rw [if_pos c] at h
    refine q_lr (k := 1) (i := 0) (q := (.aload_n 0, 1, 0, 0, .null)) rfl (fun _ => rfl) l0 ?_
    refine q_li (k := 1) (i := 1) (q := (.iload_n 1, 1, 0, 0, .null)) rfl (fun _ => rfl) l1 ?_
    refine r_s (fr' := (15, lv, [.int 0, .int v1, .ref 70])) (hp' := xW B q3.2) (q := (.iconst 0, 1, 0, 0, .null)) rfl (fun _ => rfl) (Nat.le_refl _) ?_
    obtain ⟨q15, h15, h⟩ := xbind h
    refine r_call (ix := 70) (as := [.int v1, .int 0]) (rest := []) (rv := some (.int q15.1)) (hp' := xW B q15.2) (pc := 15) rfl xr208 rfl rfl rfl (xkd H (by decide)) (Nat.le_of_ble_eq_true rfl) (Z208 H h15 (by omega)) (Nat.le_refl _) ?_
    refine q_li (k := 1) (i := 2) (q := (.iload_n 2, 1, 0, 0, .null)) rfl (fun _ => rfl) l2 ?_
    refine r_ifc (len := 3) (a := 24) (b := 0) (v0 := .null) (cn := .ne) (off := 5) rfl (fun c => ?_) (fun c => ?_)
    · rw [if_pos c] at h
      refine q_lr (k := 1) (i := 0) (q := (.aload_n 0, 1, 0, 0, .null)) rfl (fun _ => rfl) l0 ?_
      refine r_gr (c := 80) H (pc := 25) rfl (by decide) (by decide) ?_
      refine r_s (fr' := (29, lv, [.int 0, .ref 80])) (hp' := xW B q15.2) (q := (.iconst 0, 1, 0, 0, .null)) rfl (fun _ => rfl) (Nat.le_refl _) ?_
      refine q_al (n := 148) (v := (q15.2.1 80 0)) H (pc := 29) rfl (by decide) (by decide) rfl ?_
      refine r_s (fr' := (31, lv, [.int 1, .int (q15.2.1 80 0)])) (hp' := xW B q15.2) (q := (.iconst 1, 1, 0, 0, .null)) rfl (fun _ => rfl) (Nat.le_refl _) ?_
      refine r_s (fr' := (32, lv, [.int ((q15.2.1 80 0) - 1)])) (hp' := xW B q15.2) (q := (.isub, 1, 0, 0, .null)) rfl (fun _ => rfl) (Nat.le_refl _) ?_
      refine q_si (k := 2) (i := 4) (q := (.istore 4, 2, 0, 0, .null)) rfl (fun _ => rfl) (by decide) ?_
      have l0_1 : zld (zs1 lv 4 (.int ((q15.2.1 80 0) - 1))) 0 = some (.ref 70) := x_o1 l0 rfl rfl
      have l1_1 : zld (zs1 lv 4 (.int ((q15.2.1 80 0) - 1))) 1 = some (.int v1) := x_o1 l1 rfl rfl
      have l2_1 : zld (zs1 lv 4 (.int ((q15.2.1 80 0) - 1))) 2 = some (.int v2) := x_o1 l2 rfl rfl
      have l3_1 : zld (zs1 lv 4 (.int ((q15.2.1 80 0) - 1))) 3 = some (.int v3) := x_o1 l3 rfl rfl
      have l4_1 : zld (zs1 lv 4 (.int ((q15.2.1 80 0) - 1))) 4 = some (.int ((q15.2.1 80 0) - 1)) := zs1_ld _ _ _
      generalize (zs1 lv 4 (.int ((q15.2.1 80 0) - 1))) = lv1 at *
      refine r_s (fr' := (35, lv1, [.int 1])) (hp' := xW B q15.2) (q := (.iconst 1, 1, 0, 0, .null)) rfl (fun _ => rfl) (Nat.le_refl _) ?_
      refine q_si (k := 2) (i := 5) (q := (.istore 5, 2, 0, 0, .null)) rfl (fun _ => rfl) (by decide) ?_
      have l0_2 : zld (zs1 lv1 5 (.int 1)) 0 = some (.ref 70) := x_o1 l0_1 rfl rfl
      have l1_2 : zld (zs1 lv1 5 (.int 1)) 1 = some (.int v1) := x_o1 l1_1 rfl rfl
      have l2_2 : zld (zs1 lv1 5 (.int 1)) 2 = some (.int v2) := x_o1 l2_1 rfl rfl
      have l3_2 : zld (zs1 lv1 5 (.int 1)) 3 = some (.int v3) := x_o1 l3_1 rfl rfl
      have l4_2 : zld (zs1 lv1 5 (.int 1)) 4 = some (.int ((q15.2.1 80 0) - 1)) := x_o1 l4_1 rfl rfl
      have l5_2 : zld (zs1 lv1 5 (.int 1)) 5 = some (.int 1) := zs1_ld _ _ _
      generalize (zs1 lv1 5 (.int 1)) = lv2 at *
      exact T251_37 H he F F l0_2 l1_2 l2_2 l3_2 l4_2 l5_2 h
    · rw [if_neg (by rw [c]; decide)] at h
      refine r_s (fr' := (23, lv, [.int (-1)])) (hp' := xW B q15.2) (q := (.iconst (-1), 1, 0, 0, .null)) rfl (fun _ => rfl) (Nat.le_refl _) ?_
      obtain rfl := Option.some.inj h
      exact q_ri (q := (.ireturn, 1, 0, 0, .null)) rfl (fun _ => rfl) rfl rfl
  · rw [if_neg (by rw [c]; decide)] at h
    refine r_s (fr' := (11, lv, [.int 0])) (hp' := xW B q3.2) (q := (.iconst 0, 1, 0, 0, .null)) rfl (fun _ => rfl) (Nat.le_refl _) ?_
    obtain rfl := Option.some.inj h
    exact q_ri (q := (.ireturn, 1, 0, 0, .null)) rfl (fun _ => rfl) rfl rfl
set_option maxRecDepth 20000 in
theorem Z251 {B : zHp} (H : yH0 B) {F : Nat} {a1 : Int32} {a2 : Int32} {a3 : Int32} {m : xS} {x : Int32 × xS} (h : D251 F a1 a2 a3 m = some x) {d : Nat} (hd : 6 ≤ d) : zCan d 251 [.ref 70, .int a1, .int a2, .int a3] (xW B m) (some (.int x.1), xW B x.2) := by
  obtain ⟨e, rfl⟩ : ∃ e, d = e + 1 := ⟨d - 1, by omega⟩
  refine zCan_body (nL := 7) (rt := (some .int)) (cd := zc251) (xg251) ⟨Nat.le_of_ble_eq_true rfl, by decide⟩ (Nat.le_refl _) ?_
  exact T251 H hd F rfl rfl rfl rfl h
/-- LentToolsModel.chain -/
def D252_29 (F : Nat) (v1 : Int32) (v2 : Int32) (v3 : Int32) (v4 : Int32) (m : xS) : Option (Int32 × xS) :=
  some ((-3), m)
set_option maxRecDepth 20000 in
theorem T252_29 {B : zHp} (H : yH0 B) {e : Nat} (he : 7 ≤ e + 1) (F : Nat) {v1 : Int32} {v2 : Int32} {v3 : Int32} {v4 : Int32} {lv : List (Nat × Value)} {m : xS} {x : Int32 × xS} (l0 : zld lv 0 = some (.ref 70)) (l1 : zld lv 1 = some (.int v1)) (l2 : zld lv 2 = some (.int v2)) (l3 : zld lv 3 = some (.int v3)) (l4 : zld lv 4 = some (.int v4)) (h : D252_29 F v1 v2 v3 v4 m = some x) : zR none e 6 (some .int) zc252 (29, lv, []) (xW B m) (some (.int x.1), xW B x.2) := by
  unfold D252_29 at h
  refine r_s (fr' := (31, lv, [.int (-3)])) (hp' := xW B m) (q := (.bipush (-3), 2, 0, 0, .null)) rfl (fun _ => rfl) (Nat.le_refl _) ?_
  obtain rfl := Option.some.inj h
  exact q_ri (q := (.ireturn, 1, 0, 0, .null)) rfl (fun _ => rfl) rfl rfl
def D252_60 (F : Nat) (v1 : Int32) (v2 : Int32) (v3 : Int32) (v4 : Int32) (m : xS) : Option (Int32 × xS) :=
  some ((-2), m)
set_option maxRecDepth 20000 in
theorem T252_60 {B : zHp} (H : yH0 B) {e : Nat} (he : 7 ≤ e + 1) (F : Nat) {v1 : Int32} {v2 : Int32} {v3 : Int32} {v4 : Int32} {lv : List (Nat × Value)} {m : xS} {x : Int32 × xS} (l0 : zld lv 0 = some (.ref 70)) (l1 : zld lv 1 = some (.int v1)) (l2 : zld lv 2 = some (.int v2)) (l3 : zld lv 3 = some (.int v3)) (l4 : zld lv 4 = some (.int v4)) (h : D252_60 F v1 v2 v3 v4 m = some x) : zR none e 6 (some .int) zc252 (60, lv, []) (xW B m) (some (.int x.1), xW B x.2) := by
  unfold D252_60 at h
  refine r_s (fr' := (62, lv, [.int (-2)])) (hp' := xW B m) (q := (.bipush (-2), 2, 0, 0, .null)) rfl (fun _ => rfl) (Nat.le_refl _) ?_
  obtain rfl := Option.some.inj h
  exact q_ri (q := (.ireturn, 1, 0, 0, .null)) rfl (fun _ => rfl) rfl rfl
def D252 (F : Nat) (v1 : Int32) (v2 : Int32) (v3 : Int32) (v4 : Int32) (m : xS) : Option (Int32 × xS) :=
  (D206 F v1 m).bind fun q2 =>
    if zcmp .eq q2.1 0 = true then
      D252_29 F v1 v2 v3 v4 q2.2
    else
      (D205 F v2 q2.2).bind fun q10 =>
        if zcmp .eq q10.1 0 = true then
          D252_29 F v1 v2 v3 v4 q10.2
        else
          (D158 F (v4 : Int32).toInt64 0 6 q10.2).bind fun q23 =>
            if zcmp .ne q23.1 0 = true then
              (D208 F v1 0 q23.2).bind fun q35 =>
                if zcmp .ne q35.1 v2 = true then
                  (D251 F v1 v2 v3 q35.2).bind fun q67 =>
                    if zcmp .ge q67.1 0 = true then
                      if zcmp .ge v4 2 = true then
                        if zcmp .ge (v4 - 2) q67.1 = true then
                          some ((-2), q67.2)
                        else
                          (D236 F (q67.2.1 70 27) q67.1 (v4 - 2) q67.2).bind fun q124 =>
                            some (q124.1, q124.2)
                      else
                        if zcmp .ne v4 0 = true then
                          (D214 F v1 q67.1 q67.2).bind fun q100 =>
                            some (q100.1, q100.2)
                        else
                          some (q67.1, q67.2)
                    else
                      some ((-2), q67.2)
                else
                  if zcmp .ge v4 2 = true then
                    D252_60 F v1 v2 v3 v4 q35.2
                  else
                    (D212 F v1 q35.2).bind fun q50 =>
                      if zcmp .eq q50.1 0 = true then
                        D252_60 F v1 v2 v3 v4 q50.2
                      else
                        some (0, q50.2)
            else
              D252_29 F v1 v2 v3 v4 q23.2
set_option maxRecDepth 20000 in
theorem T252 {B : zHp} (H : yH0 B) {e : Nat} (he : 7 ≤ e + 1) (F : Nat) {v1 : Int32} {v2 : Int32} {v3 : Int32} {v4 : Int32} {lv : List (Nat × Value)} {m : xS} {x : Int32 × xS} (l0 : zld lv 0 = some (.ref 70)) (l1 : zld lv 1 = some (.int v1)) (l2 : zld lv 2 = some (.int v2)) (l3 : zld lv 3 = some (.int v3)) (l4 : zld lv 4 = some (.int v4)) (h : D252 F v1 v2 v3 v4 m = some x) : zR none e 6 (some .int) zc252 (0, lv, []) (xW B m) (some (.int x.1), xW B x.2) := by
  unfold D252 at h
  refine q_lr (k := 1) (i := 0) (q := (.aload_n 0, 1, 0, 0, .null)) rfl (fun _ => rfl) l0 ?_
  refine q_li (k := 1) (i := 1) (q := (.iload_n 1, 1, 0, 0, .null)) rfl (fun _ => rfl) l1 ?_
  obtain ⟨q2, h2, h⟩ := xbind h
  refine r_call (ix := 70) (as := [.int v1]) (rest := []) (rv := some (.int q2.1)) (hp' := xW B q2.2) (pc := 2) rfl xr206 rfl rfl rfl (xkd H (by decide)) (Nat.le_of_ble_eq_true rfl) (Z206 H h2 (by omega)) (Nat.le_refl _) ?_
  refine r_if (len := 3) (a := 29) (b := 0) (v0 := .null) (cn := .eq) (off := 24) rfl (fun c => ?_) (fun c => ?_)
  · rw [if_pos c] at h
    exact T252_29 H he F l0 l1 l2 l3 l4 h
  · rw [if_neg (by rw [c]; decide)] at h
    refine q_lr (k := 1) (i := 0) (q := (.aload_n 0, 1, 0, 0, .null)) rfl (fun _ => rfl) l0 ?_
    refine q_li (k := 1) (i := 2) (q := (.iload_n 2, 1, 0, 0, .null)) rfl (fun _ => rfl) l2 ?_
    obtain ⟨q10, h10, h⟩ := xbind h
    refine r_call (ix := 70) (as := [.int v2]) (rest := []) (rv := some (.int q10.1)) (hp' := xW B q10.2) (pc := 10) rfl xr205 rfl rfl rfl (xkd H (by decide)) (Nat.le_of_ble_eq_true rfl) (Z205 H h10 (by omega)) (Nat.le_refl _) ?_
    refine r_if (len := 3) (a := 29) (b := 0) (v0 := .null) (cn := .eq) (off := 16) rfl (fun c => ?_) (fun c => ?_)
    · rw [if_pos c] at h
      exact T252_29 H he F l0 l1 l2 l3 l4 h
    · rw [if_neg (by rw [c]; decide)] at h
      refine q_li (k := 2) (i := 4) (q := (.iload 4, 2, 0, 0, .null)) rfl (fun _ => rfl) l4 ?_
      refine r_s (fr' := (19, lv, [.long (v4 : Int32).toInt64])) (hp' := xW B q10.2) (q := (.i2l, 1, 0, 0, .null)) rfl (fun _ => rfl) (Nat.le_refl _) ?_
      refine r_s (fr' := (20, lv, [.long 0, .long (v4 : Int32).toInt64])) (hp' := xW B q10.2) (q := (.lconst 0, 1, 0, 0, .null)) rfl (fun _ => rfl) (Nat.le_refl _) ?_
      refine r_s (fr' := (23, lv, [.long 6, .long 0, .long (v4 : Int32).toInt64])) (hp' := xW B q10.2) (q := (.ldc2_w 413, 3, 0, 0, .long 6)) rfl (fun _ => rfl) (Nat.le_refl _) ?_
      obtain ⟨q23, h23, h⟩ := xbind h
      refine r_callS (as := [.long (v4 : Int32).toInt64, .long 0, .long 6]) (rest := []) (rv := some (.int q23.1)) (hp' := xW B q23.2) (pc := 23) rfl xr158 rfl rfl rfl (Nat.le_of_ble_eq_true rfl) (Z158 H h23 (by omega)) (Nat.le_refl _) ?_
      refine r_if (len := 3) (a := 32) (b := 0) (v0 := .null) (cn := .ne) (off := 6) rfl (fun c => ?_) (fun c => ?_)
      · rw [if_pos c] at h
        refine q_lr (k := 1) (i := 0) (q := (.aload_n 0, 1, 0, 0, .null)) rfl (fun _ => rfl) l0 ?_
        refine q_li (k := 1) (i := 1) (q := (.iload_n 1, 1, 0, 0, .null)) rfl (fun _ => rfl) l1 ?_
        refine r_s (fr' := (35, lv, [.int 0, .int v1, .ref 70])) (hp' := xW B q23.2) (q := (.iconst 0, 1, 0, 0, .null)) rfl (fun _ => rfl) (Nat.le_refl _) ?_
        obtain ⟨q35, h35, h⟩ := xbind h
        refine r_call (ix := 70) (as := [.int v1, .int 0]) (rest := []) (rv := some (.int q35.1)) (hp' := xW B q35.2) (pc := 35) rfl xr208 rfl rfl rfl (xkd H (by decide)) (Nat.le_of_ble_eq_true rfl) (Z208 H h35 (by omega)) (Nat.le_refl _) ?_
        refine q_li (k := 1) (i := 2) (q := (.iload_n 2, 1, 0, 0, .null)) rfl (fun _ => rfl) l2 ?_
        refine r_ifc (len := 3) (a := 63) (b := 0) (v0 := .null) (cn := .ne) (off := 24) rfl (fun c => ?_) (fun c => ?_)
        · rw [if_pos c] at h
          refine q_lr (k := 1) (i := 0) (q := (.aload_n 0, 1, 0, 0, .null)) rfl (fun _ => rfl) l0 ?_
          refine q_li (k := 1) (i := 1) (q := (.iload_n 1, 1, 0, 0, .null)) rfl (fun _ => rfl) l1 ?_
          refine q_li (k := 1) (i := 2) (q := (.iload_n 2, 1, 0, 0, .null)) rfl (fun _ => rfl) l2 ?_
          refine q_li (k := 1) (i := 3) (q := (.iload_n 3, 1, 0, 0, .null)) rfl (fun _ => rfl) l3 ?_
          obtain ⟨q67, h67, h⟩ := xbind h
          refine r_call (ix := 70) (as := [.int v1, .int v2, .int v3]) (rest := []) (rv := some (.int q67.1)) (hp' := xW B q67.2) (pc := 67) rfl xr251 rfl rfl rfl (xkd H (by decide)) (Nat.le_of_ble_eq_true rfl) (Z251 H h67 (by omega)) (Nat.le_refl _) ?_
          refine q_si (k := 2) (i := 5) (q := (.istore 5, 2, 0, 0, .null)) rfl (fun _ => rfl) (by decide) ?_
          have l0_1 : zld (zs1 lv 5 (.int q67.1)) 0 = some (.ref 70) := x_o1 l0 rfl rfl
          have l1_1 : zld (zs1 lv 5 (.int q67.1)) 1 = some (.int v1) := x_o1 l1 rfl rfl
          have l2_1 : zld (zs1 lv 5 (.int q67.1)) 2 = some (.int v2) := x_o1 l2 rfl rfl
          have l3_1 : zld (zs1 lv 5 (.int q67.1)) 3 = some (.int v3) := x_o1 l3 rfl rfl
          have l4_1 : zld (zs1 lv 5 (.int q67.1)) 4 = some (.int v4) := x_o1 l4 rfl rfl
          have l5_1 : zld (zs1 lv 5 (.int q67.1)) 5 = some (.int q67.1) := zs1_ld _ _ _
          generalize (zs1 lv 5 (.int q67.1)) = lv1 at *
          refine q_li (k := 2) (i := 5) (q := (.iload 5, 2, 0, 0, .null)) rfl (fun _ => rfl) l5_1 ?_
          refine r_if (len := 3) (a := 80) (b := 0) (v0 := .null) (cn := .ge) (off := 6) rfl (fun c => ?_) (fun c => ?_)
          · rw [if_pos c] at h
            refine q_li (k := 2) (i := 4) (q := (.iload 4, 2, 0, 0, .null)) rfl (fun _ => rfl) l4_1 ?_
            refine r_s (fr' := (83, lv1, [.int 2, .int v4])) (hp' := xW B q67.2) (q := (.iconst 2, 1, 0, 0, .null)) rfl (fun _ => rfl) (Nat.le_refl _) ?_
            refine r_ifc (len := 3) (a := 104) (b := 0) (v0 := .null) (cn := .ge) (off := 21) rfl (fun c => ?_) (fun c => ?_)
            · rw [if_pos c] at h
              refine q_li (k := 2) (i := 4) (q := (.iload 4, 2, 0, 0, .null)) rfl (fun _ => rfl) l4_1 ?_
              refine r_s (fr' := (107, lv1, [.int 2, .int v4])) (hp' := xW B q67.2) (q := (.iconst 2, 1, 0, 0, .null)) rfl (fun _ => rfl) (Nat.le_refl _) ?_
              refine r_s (fr' := (108, lv1, [.int (v4 - 2)])) (hp' := xW B q67.2) (q := (.isub, 1, 0, 0, .null)) rfl (fun _ => rfl) (Nat.le_refl _) ?_
              refine q_li (k := 2) (i := 5) (q := (.iload 5, 2, 0, 0, .null)) rfl (fun _ => rfl) l5_1 ?_
              refine r_ifc (len := 3) (a := 130) (b := 0) (v0 := .null) (cn := .ge) (off := 20) rfl (fun c => ?_) (fun c => ?_)
              · rw [if_pos c] at h
                refine r_s (fr' := (132, lv1, [.int (-2)])) (hp' := xW B q67.2) (q := (.bipush (-2), 2, 0, 0, .null)) rfl (fun _ => rfl) (Nat.le_refl _) ?_
                obtain rfl := Option.some.inj h
                exact q_ri (q := (.ireturn, 1, 0, 0, .null)) rfl (fun _ => rfl) rfl rfl
              · rw [if_neg (by rw [c]; decide)] at h
                refine q_lr (k := 1) (i := 0) (q := (.aload_n 0, 1, 0, 0, .null)) rfl (fun _ => rfl) l0_1 ?_
                refine q_lr (k := 1) (i := 0) (q := (.aload_n 0, 1, 0, 0, .null)) rfl (fun _ => rfl) l0_1 ?_
                refine r_gi (v := (q67.2.1 70 27)) H (pc := 115) (i := _) rfl (by decide) (by decide) rfl ?_
                refine q_li (k := 2) (i := 5) (q := (.iload 5, 2, 0, 0, .null)) rfl (fun _ => rfl) l5_1 ?_
                refine q_li (k := 2) (i := 4) (q := (.iload 4, 2, 0, 0, .null)) rfl (fun _ => rfl) l4_1 ?_
                refine r_s (fr' := (123, lv1, [.int 2, .int v4, .int q67.1, .int (q67.2.1 70 27), .ref 70])) (hp' := xW B q67.2) (q := (.iconst 2, 1, 0, 0, .null)) rfl (fun _ => rfl) (Nat.le_refl _) ?_
                refine r_s (fr' := (124, lv1, [.int (v4 - 2), .int q67.1, .int (q67.2.1 70 27), .ref 70])) (hp' := xW B q67.2) (q := (.isub, 1, 0, 0, .null)) rfl (fun _ => rfl) (Nat.le_refl _) ?_
                obtain ⟨q124, h124, h⟩ := xbind h
                refine r_call (ix := 70) (as := [.int (q67.2.1 70 27), .int q67.1, .int (v4 - 2)]) (rest := []) (rv := some (.int q124.1)) (hp' := xW B q124.2) (pc := 124) rfl xr236 rfl rfl rfl (xkd H (by decide)) (Nat.le_of_ble_eq_true rfl) (Z236 H h124 (by omega)) (Nat.le_refl _) ?_
                refine r_s (fr' := (132, lv1, [.int q124.1])) (hp' := xW B q124.2) (q := (.goto 5, 3, 132, 0, .null)) rfl (fun _ => rfl) (Nat.le_refl _) ?_
                obtain rfl := Option.some.inj h
                exact q_ri (q := (.ireturn, 1, 0, 0, .null)) rfl (fun _ => rfl) rfl rfl
            · rw [if_neg (by rw [c]; decide)] at h
              refine q_li (k := 2) (i := 4) (q := (.iload 4, 2, 0, 0, .null)) rfl (fun _ => rfl) l4_1 ?_
              refine r_if (len := 3) (a := 96) (b := 0) (v0 := .null) (cn := .ne) (off := 8) rfl (fun c => ?_) (fun c => ?_)
              · rw [if_pos c] at h
                refine q_lr (k := 1) (i := 0) (q := (.aload_n 0, 1, 0, 0, .null)) rfl (fun _ => rfl) l0_1 ?_
                refine q_li (k := 1) (i := 1) (q := (.iload_n 1, 1, 0, 0, .null)) rfl (fun _ => rfl) l1_1 ?_
                refine q_li (k := 2) (i := 5) (q := (.iload 5, 2, 0, 0, .null)) rfl (fun _ => rfl) l5_1 ?_
                obtain ⟨q100, h100, h⟩ := xbind h
                refine r_call (ix := 70) (as := [.int v1, .int q67.1]) (rest := []) (rv := some (.int q100.1)) (hp' := xW B q100.2) (pc := 100) rfl xr214 rfl rfl rfl (xkd H (by decide)) (Nat.le_of_ble_eq_true rfl) (Z214 H h100 (by omega)) (Nat.le_refl _) ?_
                obtain rfl := Option.some.inj h
                exact q_ri (q := (.ireturn, 1, 0, 0, .null)) rfl (fun _ => rfl) rfl rfl
              · rw [if_neg (by rw [c]; decide)] at h
                refine q_li (k := 2) (i := 5) (q := (.iload 5, 2, 0, 0, .null)) rfl (fun _ => rfl) l5_1 ?_
                refine r_s (fr' := (103, lv1, [.int q67.1])) (hp' := xW B q67.2) (q := (.goto 10, 3, 103, 0, .null)) rfl (fun _ => rfl) (Nat.le_refl _) ?_
                obtain rfl := Option.some.inj h
                exact q_ri (q := (.ireturn, 1, 0, 0, .null)) rfl (fun _ => rfl) rfl rfl
          · rw [if_neg (by rw [c]; decide)] at h
            refine r_s (fr' := (79, lv1, [.int (-2)])) (hp' := xW B q67.2) (q := (.bipush (-2), 2, 0, 0, .null)) rfl (fun _ => rfl) (Nat.le_refl _) ?_
            obtain rfl := Option.some.inj h
            exact q_ri (q := (.ireturn, 1, 0, 0, .null)) rfl (fun _ => rfl) rfl rfl
        · rw [if_neg (by rw [c]; decide)] at h
          refine q_li (k := 2) (i := 4) (q := (.iload 4, 2, 0, 0, .null)) rfl (fun _ => rfl) l4 ?_
          refine r_s (fr' := (45, lv, [.int 2, .int v4])) (hp' := xW B q35.2) (q := (.iconst 2, 1, 0, 0, .null)) rfl (fun _ => rfl) (Nat.le_refl _) ?_
          refine r_ifc (len := 3) (a := 60) (b := 0) (v0 := .null) (cn := .ge) (off := 15) rfl (fun c => ?_) (fun c => ?_)
          · rw [if_pos c] at h
            exact T252_60 H he F l0 l1 l2 l3 l4 h
          · rw [if_neg (by rw [c]; decide)] at h
            refine q_lr (k := 1) (i := 0) (q := (.aload_n 0, 1, 0, 0, .null)) rfl (fun _ => rfl) l0 ?_
            refine q_li (k := 1) (i := 1) (q := (.iload_n 1, 1, 0, 0, .null)) rfl (fun _ => rfl) l1 ?_
            obtain ⟨q50, h50, h⟩ := xbind h
            refine r_call (ix := 70) (as := [.int v1]) (rest := []) (rv := some (.int q50.1)) (hp' := xW B q50.2) (pc := 50) rfl xr212 rfl rfl rfl (xkd H (by decide)) (Nat.le_of_ble_eq_true rfl) (Z212 H h50 (by omega)) (Nat.le_refl _) ?_
            refine r_if (len := 3) (a := 60) (b := 0) (v0 := .null) (cn := .eq) (off := 7) rfl (fun c => ?_) (fun c => ?_)
            · rw [if_pos c] at h
              exact T252_60 H he F l0 l1 l2 l3 l4 h
            · rw [if_neg (by rw [c]; decide)] at h
              refine r_s (fr' := (57, lv, [.int 0])) (hp' := xW B q50.2) (q := (.iconst 0, 1, 0, 0, .null)) rfl (fun _ => rfl) (Nat.le_refl _) ?_
              refine r_s (fr' := (62, lv, [.int 0])) (hp' := xW B q50.2) (q := (.goto 5, 3, 62, 0, .null)) rfl (fun _ => rfl) (Nat.le_refl _) ?_
              obtain rfl := Option.some.inj h
              exact q_ri (q := (.ireturn, 1, 0, 0, .null)) rfl (fun _ => rfl) rfl rfl
      · rw [if_neg (by rw [c]; decide)] at h
        exact T252_29 H he F l0 l1 l2 l3 l4 h
set_option maxRecDepth 20000 in
theorem Z252 {B : zHp} (H : yH0 B) {F : Nat} {a1 : Int32} {a2 : Int32} {a3 : Int32} {a4 : Int32} {m : xS} {x : Int32 × xS} (h : D252 F a1 a2 a3 a4 m = some x) {d : Nat} (hd : 7 ≤ d) : zCan d 252 [.ref 70, .int a1, .int a2, .int a3, .int a4] (xW B m) (some (.int x.1), xW B x.2) := by
  obtain ⟨e, rfl⟩ : ∃ e, d = e + 1 := ⟨d - 1, by omega⟩
  refine zCan_body (nL := 6) (rt := (some .int)) (cd := zc252) (xg252) ⟨Nat.le_of_ble_eq_true rfl, by decide⟩ (Nat.le_refl _) ?_
  exact T252 H hd F rfl rfl rfl rfl rfl h
/-- LentToolsModel.fillsSuits -/
def D253_118 (F : Nat) (g2 : Int32 → Int32 → xS → Option (Unit × xS)) (g14 : Int32 → Int32 → Int32 → xS → Option (Unit × xS)) (v1 : Int32) (v2 : Int32) (v3 : Int32) (v4 : Int32) (v5 : Int32) (w0 : Int32) (w1 : Int32) (m : xS) : Option (Unit × xS) :=
  if xib w1 36 = true then
    g14 v1 v2 (v3 + Int32.ofInt 1) (xu m 82 (w1 : Int32).toNatClampNeg (vp_nar .boolean w0))
  else none
set_option maxRecDepth 20000 in
theorem T253_118 {B : zHp} (H : yH0 B) {e : Nat} (he : 7 ≤ e + 1) (F : Nat) (g2 : Int32 → Int32 → xS → Option (Unit × xS)) (g14 : Int32 → Int32 → Int32 → xS → Option (Unit × xS)) (k2 : ∀ {v1 : Int32} {v2 : Int32} {lv : List (Nat × Value)} {m : xS} {x : Unit × xS}, zld lv 0 = some (.ref 70) → zld lv 1 = some (.int v1) → zld lv 2 = some (.int v2) → g2 v1 v2 m = some x → zR none e 6 none zc253 (2, lv, []) (xW B m) (none, xW B x.2)) (k14 : ∀ {v1 : Int32} {v2 : Int32} {v3 : Int32} {lv : List (Nat × Value)} {m : xS} {x : Unit × xS}, zld lv 0 = some (.ref 70) → zld lv 1 = some (.int v1) → zld lv 2 = some (.int v2) → zld lv 3 = some (.int v3) → g14 v1 v2 v3 m = some x → zR none e 6 none zc253 (14, lv, []) (xW B m) (none, xW B x.2)) {v1 : Int32} {v2 : Int32} {v3 : Int32} {v4 : Int32} {v5 : Int32} {w0 : Int32} {w1 : Int32} {lv : List (Nat × Value)} {m : xS} {x : Unit × xS} (l0 : zld lv 0 = some (.ref 70)) (l1 : zld lv 1 = some (.int v1)) (l2 : zld lv 2 = some (.int v2)) (l3 : zld lv 3 = some (.int v3)) (l4 : zld lv 4 = some (.int v4)) (l5 : zld lv 5 = some (.int v5)) (h : D253_118 F g2 g14 v1 v2 v3 v4 v5 w0 w1 m = some x) : zR none e 6 none zc253 (118, lv, [.int w0, .int w1, .ref 82]) (xW B m) (none, xW B x.2) := by
  unfold D253_118 at h
  obtain ⟨c1, h⟩ := xif h
  refine q_bs2 (n := 36) (s2 := (xu m 82 (w1 : Int32).toNatClampNeg (vp_nar .boolean w0))) H (pc := 118) rfl (by decide) c1 rfl ?_
  refine q_inc (i := 3) (n := 1) (q := (.iinc 3 1, 3, 0, 0, .null)) rfl (fun _ => rfl) l3 (by decide) ?_
  have l0_2 : zld (zs1 lv 3 (.int (v3 + Int32.ofInt 1))) 0 = some (.ref 70) := x_o1 l0 rfl rfl
  have l1_2 : zld (zs1 lv 3 (.int (v3 + Int32.ofInt 1))) 1 = some (.int v1) := x_o1 l1 rfl rfl
  have l2_2 : zld (zs1 lv 3 (.int (v3 + Int32.ofInt 1))) 2 = some (.int v2) := x_o1 l2 rfl rfl
  have l3_2 : zld (zs1 lv 3 (.int (v3 + Int32.ofInt 1))) 3 = some (.int (v3 + Int32.ofInt 1)) := zs1_ld _ _ _
  have l4_2 : zld (zs1 lv 3 (.int (v3 + Int32.ofInt 1))) 4 = some (.int v4) := x_o1 l4 rfl rfl
  have l5_2 : zld (zs1 lv 3 (.int (v3 + Int32.ofInt 1))) 5 = some (.int v5) := x_o1 l5 rfl rfl
  generalize (zs1 lv 3 (.int (v3 + Int32.ofInt 1))) = lv2 at *
  refine r_s (fr' := (14, lv2, [])) (hp' := xW B (xu m 82 (w1 : Int32).toNatClampNeg (vp_nar .boolean w0))) (q := (.goto (-108), 3, 14, 0, .null)) rfl (fun _ => rfl) (Nat.le_refl _) ?_
  exact k14 l0_2 l1_2 l2_2 l3_2 h
def D253_117 (F : Nat) (g2 : Int32 → Int32 → xS → Option (Unit × xS)) (g14 : Int32 → Int32 → Int32 → xS → Option (Unit × xS)) (v1 : Int32) (v2 : Int32) (v3 : Int32) (v4 : Int32) (v5 : Int32) (w0 : Int32) (m : xS) : Option (Unit × xS) :=
  D253_118 F g2 g14 v1 v2 v3 v4 v5 0 w0 m
set_option maxRecDepth 20000 in
theorem T253_117 {B : zHp} (H : yH0 B) {e : Nat} (he : 7 ≤ e + 1) (F : Nat) (g2 : Int32 → Int32 → xS → Option (Unit × xS)) (g14 : Int32 → Int32 → Int32 → xS → Option (Unit × xS)) (k2 : ∀ {v1 : Int32} {v2 : Int32} {lv : List (Nat × Value)} {m : xS} {x : Unit × xS}, zld lv 0 = some (.ref 70) → zld lv 1 = some (.int v1) → zld lv 2 = some (.int v2) → g2 v1 v2 m = some x → zR none e 6 none zc253 (2, lv, []) (xW B m) (none, xW B x.2)) (k14 : ∀ {v1 : Int32} {v2 : Int32} {v3 : Int32} {lv : List (Nat × Value)} {m : xS} {x : Unit × xS}, zld lv 0 = some (.ref 70) → zld lv 1 = some (.int v1) → zld lv 2 = some (.int v2) → zld lv 3 = some (.int v3) → g14 v1 v2 v3 m = some x → zR none e 6 none zc253 (14, lv, []) (xW B m) (none, xW B x.2)) {v1 : Int32} {v2 : Int32} {v3 : Int32} {v4 : Int32} {v5 : Int32} {w0 : Int32} {lv : List (Nat × Value)} {m : xS} {x : Unit × xS} (l0 : zld lv 0 = some (.ref 70)) (l1 : zld lv 1 = some (.int v1)) (l2 : zld lv 2 = some (.int v2)) (l3 : zld lv 3 = some (.int v3)) (l4 : zld lv 4 = some (.int v4)) (l5 : zld lv 5 = some (.int v5)) (h : D253_117 F g2 g14 v1 v2 v3 v4 v5 w0 m = some x) : zR none e 6 none zc253 (117, lv, [.int w0, .ref 82]) (xW B m) (none, xW B x.2) := by
  unfold D253_117 at h
  refine r_s (fr' := (118, lv, [.int 0, .int w0, .ref 82])) (hp' := xW B m) (q := (.iconst 0, 1, 0, 0, .null)) rfl (fun _ => rfl) (Nat.le_refl _) ?_
  exact T253_118 H he F _ _ k2 k14 l0 l1 l2 l3 l4 l5 h
def D253_80 (F : Nat) (g2 : Int32 → Int32 → xS → Option (Unit × xS)) (g14 : Int32 → Int32 → Int32 → xS → Option (Unit × xS)) (v1 : Int32) (v2 : Int32) (v3 : Int32) (v4 : Int32) (w0 : Int32) (m : xS) : Option (Unit × xS) :=
  if zcmp .lt w0 0 = true then
    D253_117 F g2 g14 v1 v2 v3 v4 w0 ((6 * v2) + v3) m
  else
    (D214 F v2 w0 m).bind fun q101 =>
      (D209 F v3 2 q101.2).bind fun q107 =>
        if zcmp .lt q101.1 q107.1 = true then
          D253_117 F g2 g14 v1 v2 v3 v4 w0 ((6 * v2) + v3) q107.2
        else
          D253_118 F g2 g14 v1 v2 v3 v4 w0 1 ((6 * v2) + v3) q107.2
set_option maxRecDepth 20000 in
theorem T253_80 {B : zHp} (H : yH0 B) {e : Nat} (he : 7 ≤ e + 1) (F : Nat) (g2 : Int32 → Int32 → xS → Option (Unit × xS)) (g14 : Int32 → Int32 → Int32 → xS → Option (Unit × xS)) (k2 : ∀ {v1 : Int32} {v2 : Int32} {lv : List (Nat × Value)} {m : xS} {x : Unit × xS}, zld lv 0 = some (.ref 70) → zld lv 1 = some (.int v1) → zld lv 2 = some (.int v2) → g2 v1 v2 m = some x → zR none e 6 none zc253 (2, lv, []) (xW B m) (none, xW B x.2)) (k14 : ∀ {v1 : Int32} {v2 : Int32} {v3 : Int32} {lv : List (Nat × Value)} {m : xS} {x : Unit × xS}, zld lv 0 = some (.ref 70) → zld lv 1 = some (.int v1) → zld lv 2 = some (.int v2) → zld lv 3 = some (.int v3) → g14 v1 v2 v3 m = some x → zR none e 6 none zc253 (14, lv, []) (xW B m) (none, xW B x.2)) {v1 : Int32} {v2 : Int32} {v3 : Int32} {v4 : Int32} {w0 : Int32} {lv : List (Nat × Value)} {m : xS} {x : Unit × xS} (l0 : zld lv 0 = some (.ref 70)) (l1 : zld lv 1 = some (.int v1)) (l2 : zld lv 2 = some (.int v2)) (l3 : zld lv 3 = some (.int v3)) (l4 : zld lv 4 = some (.int v4)) (h : D253_80 F g2 g14 v1 v2 v3 v4 w0 m = some x) : zR none e 6 none zc253 (80, lv, [.int w0]) (xW B m) (none, xW B x.2) := by
  unfold D253_80 at h
  refine q_si (k := 2) (i := 5) (q := (.istore 5, 2, 0, 0, .null)) rfl (fun _ => rfl) (by decide) ?_
  have l0_1 : zld (zs1 lv 5 (.int w0)) 0 = some (.ref 70) := x_o1 l0 rfl rfl
  have l1_1 : zld (zs1 lv 5 (.int w0)) 1 = some (.int v1) := x_o1 l1 rfl rfl
  have l2_1 : zld (zs1 lv 5 (.int w0)) 2 = some (.int v2) := x_o1 l2 rfl rfl
  have l3_1 : zld (zs1 lv 5 (.int w0)) 3 = some (.int v3) := x_o1 l3 rfl rfl
  have l4_1 : zld (zs1 lv 5 (.int w0)) 4 = some (.int v4) := x_o1 l4 rfl rfl
  have l5_1 : zld (zs1 lv 5 (.int w0)) 5 = some (.int w0) := zs1_ld _ _ _
  generalize (zs1 lv 5 (.int w0)) = lv1 at *
  refine q_lr (k := 1) (i := 0) (q := (.aload_n 0, 1, 0, 0, .null)) rfl (fun _ => rfl) l0_1 ?_
  refine r_gr (c := 82) H (pc := 83) rfl (by decide) (by decide) ?_
  refine r_s (fr' := (88, lv1, [.int 6, .ref 82])) (hp' := xW B m) (q := (.bipush 6, 2, 0, 0, .null)) rfl (fun _ => rfl) (Nat.le_refl _) ?_
  refine q_li (k := 1) (i := 2) (q := (.iload_n 2, 1, 0, 0, .null)) rfl (fun _ => rfl) l2_1 ?_
  refine r_s (fr' := (90, lv1, [.int (6 * v2), .ref 82])) (hp' := xW B m) (q := (.imul, 1, 0, 0, .null)) rfl (fun _ => rfl) (Nat.le_refl _) ?_
  refine q_li (k := 1) (i := 3) (q := (.iload_n 3, 1, 0, 0, .null)) rfl (fun _ => rfl) l3_1 ?_
  refine r_s (fr' := (92, lv1, [.int ((6 * v2) + v3), .ref 82])) (hp' := xW B m) (q := (.iadd, 1, 0, 0, .null)) rfl (fun _ => rfl) (Nat.le_refl _) ?_
  refine q_li (k := 2) (i := 5) (q := (.iload 5, 2, 0, 0, .null)) rfl (fun _ => rfl) l5_1 ?_
  refine r_if (len := 3) (a := 117) (b := 0) (v0 := .null) (cn := .lt) (off := 23) rfl (fun c => ?_) (fun c => ?_)
  · rw [if_pos c] at h
    exact T253_117 H he F _ _ k2 k14 l0_1 l1_1 l2_1 l3_1 l4_1 l5_1 h
  · rw [if_neg (by rw [c]; decide)] at h
    refine q_lr (k := 1) (i := 0) (q := (.aload_n 0, 1, 0, 0, .null)) rfl (fun _ => rfl) l0_1 ?_
    refine q_li (k := 1) (i := 2) (q := (.iload_n 2, 1, 0, 0, .null)) rfl (fun _ => rfl) l2_1 ?_
    refine q_li (k := 2) (i := 5) (q := (.iload 5, 2, 0, 0, .null)) rfl (fun _ => rfl) l5_1 ?_
    obtain ⟨q101, h101, h⟩ := xbind h
    refine r_call (ix := 70) (as := [.int v2, .int w0]) (rest := [.int ((6 * v2) + v3), .ref 82]) (rv := some (.int q101.1)) (hp' := xW B q101.2) (pc := 101) rfl xr214 rfl rfl rfl (xkd H (by decide)) (Nat.le_of_ble_eq_true rfl) (Z214 H h101 (by omega)) (Nat.le_refl _) ?_
    refine q_lr (k := 1) (i := 0) (q := (.aload_n 0, 1, 0, 0, .null)) rfl (fun _ => rfl) l0_1 ?_
    refine q_li (k := 1) (i := 3) (q := (.iload_n 3, 1, 0, 0, .null)) rfl (fun _ => rfl) l3_1 ?_
    refine r_s (fr' := (107, lv1, [.int 2, .int v3, .ref 70, .int q101.1, .int ((6 * v2) + v3), .ref 82])) (hp' := xW B q101.2) (q := (.iconst 2, 1, 0, 0, .null)) rfl (fun _ => rfl) (Nat.le_refl _) ?_
    obtain ⟨q107, h107, h⟩ := xbind h
    refine r_call (ix := 70) (as := [.int v3, .int 2]) (rest := [.int q101.1, .int ((6 * v2) + v3), .ref 82]) (rv := some (.int q107.1)) (hp' := xW B q107.2) (pc := 107) rfl xr209 rfl rfl rfl (xkd H (by decide)) (Nat.le_of_ble_eq_true rfl) (Z209 H h107 (by omega)) (Nat.le_refl _) ?_
    refine r_ifc (len := 3) (a := 117) (b := 0) (v0 := .null) (cn := .lt) (off := 7) rfl (fun c => ?_) (fun c => ?_)
    · rw [if_pos c] at h
      exact T253_117 H he F _ _ k2 k14 l0_1 l1_1 l2_1 l3_1 l4_1 l5_1 h
    · rw [if_neg (by rw [c]; decide)] at h
      refine r_s (fr' := (114, lv1, [.int 1, .int ((6 * v2) + v3), .ref 82])) (hp' := xW B q107.2) (q := (.iconst 1, 1, 0, 0, .null)) rfl (fun _ => rfl) (Nat.le_refl _) ?_
      refine r_s (fr' := (118, lv1, [.int 1, .int ((6 * v2) + v3), .ref 82])) (hp' := xW B q107.2) (q := (.goto 4, 3, 118, 0, .null)) rfl (fun _ => rfl) (Nat.le_refl _) ?_
      exact T253_118 H he F _ _ k2 k14 l0_1 l1_1 l2_1 l3_1 l4_1 l5_1 h
def D253_57 (F : Nat) (g2 : Int32 → Int32 → xS → Option (Unit × xS)) (g14 : Int32 → Int32 → Int32 → xS → Option (Unit × xS)) (v1 : Int32) (v2 : Int32) (v3 : Int32) (w0 : Int32) (m : xS) : Option (Unit × xS) :=
  if zcmp .eq w0 0 = true then
    D253_80 F g2 g14 v1 v2 v3 w0 (-1) m
  else
    (D209 F v3 0 m).bind fun q69 =>
      (D251 F v2 q69.1 1 q69.2).bind fun q73 =>
        D253_80 F g2 g14 v1 v2 v3 w0 q73.1 q73.2
set_option maxRecDepth 20000 in
theorem T253_57 {B : zHp} (H : yH0 B) {e : Nat} (he : 7 ≤ e + 1) (F : Nat) (g2 : Int32 → Int32 → xS → Option (Unit × xS)) (g14 : Int32 → Int32 → Int32 → xS → Option (Unit × xS)) (k2 : ∀ {v1 : Int32} {v2 : Int32} {lv : List (Nat × Value)} {m : xS} {x : Unit × xS}, zld lv 0 = some (.ref 70) → zld lv 1 = some (.int v1) → zld lv 2 = some (.int v2) → g2 v1 v2 m = some x → zR none e 6 none zc253 (2, lv, []) (xW B m) (none, xW B x.2)) (k14 : ∀ {v1 : Int32} {v2 : Int32} {v3 : Int32} {lv : List (Nat × Value)} {m : xS} {x : Unit × xS}, zld lv 0 = some (.ref 70) → zld lv 1 = some (.int v1) → zld lv 2 = some (.int v2) → zld lv 3 = some (.int v3) → g14 v1 v2 v3 m = some x → zR none e 6 none zc253 (14, lv, []) (xW B m) (none, xW B x.2)) {v1 : Int32} {v2 : Int32} {v3 : Int32} {w0 : Int32} {lv : List (Nat × Value)} {m : xS} {x : Unit × xS} (l0 : zld lv 0 = some (.ref 70)) (l1 : zld lv 1 = some (.int v1)) (l2 : zld lv 2 = some (.int v2)) (l3 : zld lv 3 = some (.int v3)) (h : D253_57 F g2 g14 v1 v2 v3 w0 m = some x) : zR none e 6 none zc253 (57, lv, [.int w0]) (xW B m) (none, xW B x.2) := by
  unfold D253_57 at h
  refine q_si (k := 2) (i := 4) (q := (.istore 4, 2, 0, 0, .null)) rfl (fun _ => rfl) (by decide) ?_
  have l0_1 : zld (zs1 lv 4 (.int w0)) 0 = some (.ref 70) := x_o1 l0 rfl rfl
  have l1_1 : zld (zs1 lv 4 (.int w0)) 1 = some (.int v1) := x_o1 l1 rfl rfl
  have l2_1 : zld (zs1 lv 4 (.int w0)) 2 = some (.int v2) := x_o1 l2 rfl rfl
  have l3_1 : zld (zs1 lv 4 (.int w0)) 3 = some (.int v3) := x_o1 l3 rfl rfl
  have l4_1 : zld (zs1 lv 4 (.int w0)) 4 = some (.int w0) := zs1_ld _ _ _
  generalize (zs1 lv 4 (.int w0)) = lv1 at *
  refine q_li (k := 2) (i := 4) (q := (.iload 4, 2, 0, 0, .null)) rfl (fun _ => rfl) l4_1 ?_
  refine r_if (len := 3) (a := 79) (b := 0) (v0 := .null) (cn := .eq) (off := 18) rfl (fun c => ?_) (fun c => ?_)
  · rw [if_pos c] at h
    refine r_s (fr' := (80, lv1, [.int (-1)])) (hp' := xW B m) (q := (.iconst (-1), 1, 0, 0, .null)) rfl (fun _ => rfl) (Nat.le_refl _) ?_
    exact T253_80 H he F _ _ k2 k14 l0_1 l1_1 l2_1 l3_1 l4_1 h
  · rw [if_neg (by rw [c]; decide)] at h
    refine q_lr (k := 1) (i := 0) (q := (.aload_n 0, 1, 0, 0, .null)) rfl (fun _ => rfl) l0_1 ?_
    refine q_li (k := 1) (i := 2) (q := (.iload_n 2, 1, 0, 0, .null)) rfl (fun _ => rfl) l2_1 ?_
    refine q_lr (k := 1) (i := 0) (q := (.aload_n 0, 1, 0, 0, .null)) rfl (fun _ => rfl) l0_1 ?_
    refine q_li (k := 1) (i := 3) (q := (.iload_n 3, 1, 0, 0, .null)) rfl (fun _ => rfl) l3_1 ?_
    refine r_s (fr' := (69, lv1, [.int 0, .int v3, .ref 70, .int v2, .ref 70])) (hp' := xW B m) (q := (.iconst 0, 1, 0, 0, .null)) rfl (fun _ => rfl) (Nat.le_refl _) ?_
    obtain ⟨q69, h69, h⟩ := xbind h
    refine r_call (ix := 70) (as := [.int v3, .int 0]) (rest := [.int v2, .ref 70]) (rv := some (.int q69.1)) (hp' := xW B q69.2) (pc := 69) rfl xr209 rfl rfl rfl (xkd H (by decide)) (Nat.le_of_ble_eq_true rfl) (Z209 H h69 (by omega)) (Nat.le_refl _) ?_
    refine r_s (fr' := (73, lv1, [.int 1, .int q69.1, .int v2, .ref 70])) (hp' := xW B q69.2) (q := (.iconst 1, 1, 0, 0, .null)) rfl (fun _ => rfl) (Nat.le_refl _) ?_
    obtain ⟨q73, h73, h⟩ := xbind h
    refine r_call (ix := 70) (as := [.int v2, .int q69.1, .int 1]) (rest := []) (rv := some (.int q73.1)) (hp' := xW B q73.2) (pc := 73) rfl xr251 rfl rfl rfl (xkd H (by decide)) (Nat.le_of_ble_eq_true rfl) (Z251 H h73 (by omega)) (Nat.le_refl _) ?_
    refine r_s (fr' := (80, lv1, [.int q73.1])) (hp' := xW B q73.2) (q := (.goto 4, 3, 80, 0, .null)) rfl (fun _ => rfl) (Nat.le_refl _) ?_
    exact T253_80 H he F _ _ k2 k14 l0_1 l1_1 l2_1 l3_1 l4_1 h
def D253_56 (F : Nat) (g2 : Int32 → Int32 → xS → Option (Unit × xS)) (g14 : Int32 → Int32 → Int32 → xS → Option (Unit × xS)) (v1 : Int32) (v2 : Int32) (v3 : Int32) (m : xS) : Option (Unit × xS) :=
  D253_57 F g2 g14 v1 v2 v3 0 m
set_option maxRecDepth 20000 in
theorem T253_56 {B : zHp} (H : yH0 B) {e : Nat} (he : 7 ≤ e + 1) (F : Nat) (g2 : Int32 → Int32 → xS → Option (Unit × xS)) (g14 : Int32 → Int32 → Int32 → xS → Option (Unit × xS)) (k2 : ∀ {v1 : Int32} {v2 : Int32} {lv : List (Nat × Value)} {m : xS} {x : Unit × xS}, zld lv 0 = some (.ref 70) → zld lv 1 = some (.int v1) → zld lv 2 = some (.int v2) → g2 v1 v2 m = some x → zR none e 6 none zc253 (2, lv, []) (xW B m) (none, xW B x.2)) (k14 : ∀ {v1 : Int32} {v2 : Int32} {v3 : Int32} {lv : List (Nat × Value)} {m : xS} {x : Unit × xS}, zld lv 0 = some (.ref 70) → zld lv 1 = some (.int v1) → zld lv 2 = some (.int v2) → zld lv 3 = some (.int v3) → g14 v1 v2 v3 m = some x → zR none e 6 none zc253 (14, lv, []) (xW B m) (none, xW B x.2)) {v1 : Int32} {v2 : Int32} {v3 : Int32} {lv : List (Nat × Value)} {m : xS} {x : Unit × xS} (l0 : zld lv 0 = some (.ref 70)) (l1 : zld lv 1 = some (.int v1)) (l2 : zld lv 2 = some (.int v2)) (l3 : zld lv 3 = some (.int v3)) (h : D253_56 F g2 g14 v1 v2 v3 m = some x) : zR none e 6 none zc253 (56, lv, []) (xW B m) (none, xW B x.2) := by
  unfold D253_56 at h
  refine r_s (fr' := (57, lv, [.int 0])) (hp' := xW B m) (q := (.iconst 0, 1, 0, 0, .null)) rfl (fun _ => rfl) (Nat.le_refl _) ?_
  exact T253_57 H he F _ _ k2 k14 l0 l1 l2 l3 h
def D253_14 (F : Nat) (g2 : Int32 → Int32 → xS → Option (Unit × xS)) : Nat → Int32 → Int32 → Int32 → xS → Option (Unit × xS)
  | 0, _, _, _, _ => none
  | f + 1, v1, v2, v3, m =>
    if zcmp .ge v3 (m.1 80 3) = true then
      g2 v1 (v2 + Int32.ofInt 1) m
    else
      if zcmp .eq v2 v1 = true then
        D253_56 F g2 (D253_14 F g2 f) v1 v2 v3 m
      else
        (D215 F v3 m).bind fun q31 =>
          if zcmp .ne q31.1 0 = true then
            D253_56 F g2 (D253_14 F g2 f) v1 v2 v3 q31.2
          else
            (D208 F v2 1 q31.2).bind fun q40 =>
              (D209 F v3 1 q40.2).bind fun q46 =>
                if zcmp .ne q40.1 q46.1 = true then
                  D253_56 F g2 (D253_14 F g2 f) v1 v2 v3 q46.2
                else
                  D253_57 F g2 (D253_14 F g2 f) v1 v2 v3 1 q46.2
set_option maxRecDepth 20000 in
theorem T253_14 {B : zHp} (H : yH0 B) {e : Nat} (he : 7 ≤ e + 1) (F : Nat) (g2 : Int32 → Int32 → xS → Option (Unit × xS)) (k2 : ∀ {v1 : Int32} {v2 : Int32} {lv : List (Nat × Value)} {m : xS} {x : Unit × xS}, zld lv 0 = some (.ref 70) → zld lv 1 = some (.int v1) → zld lv 2 = some (.int v2) → g2 v1 v2 m = some x → zR none e 6 none zc253 (2, lv, []) (xW B m) (none, xW B x.2)) : ∀ (f : Nat) {v1 : Int32} {v2 : Int32} {v3 : Int32} {lv : List (Nat × Value)} {m : xS} {x : Unit × xS}, zld lv 0 = some (.ref 70) → zld lv 1 = some (.int v1) → zld lv 2 = some (.int v2) → zld lv 3 = some (.int v3) → D253_14 F g2 f v1 v2 v3 m = some x → zR none e 6 none zc253 (14, lv, []) (xW B m) (none, xW B x.2) := by
  intro f
  induction f with
  | zero => intro v1 v2 v3 lv m x l0 l1 l2 l3 h; cases h
  | succ f ih =>
    intro v1 v2 v3 lv m x l0 l1 l2 l3 h
    unfold D253_14 at h
    refine q_li (k := 1) (i := 3) (q := (.iload_n 3, 1, 0, 0, .null)) rfl (fun _ => rfl) l3 ?_
    refine q_lr (k := 1) (i := 0) (q := (.aload_n 0, 1, 0, 0, .null)) rfl (fun _ => rfl) l0 ?_
    refine r_gr (c := 80) H (pc := 16) rfl (by decide) (by decide) ?_
    refine r_s (fr' := (20, lv, [.int 3, .ref 80, .int v3])) (hp' := xW B m) (q := (.iconst 3, 1, 0, 0, .null)) rfl (fun _ => rfl) (Nat.le_refl _) ?_
    refine q_al (n := 148) (v := (m.1 80 3)) H (pc := 20) rfl (by decide) (by decide) rfl ?_
    refine r_ifc (len := 3) (a := 125) (b := 0) (v0 := .null) (cn := .ge) (off := 104) rfl (fun c => ?_) (fun c => ?_)
    · rw [if_pos c] at h
      refine q_inc (i := 2) (n := 1) (q := (.iinc 2 1, 3, 0, 0, .null)) rfl (fun _ => rfl) l2 (by decide) ?_
      have l0_1 : zld (zs1 lv 2 (.int (v2 + Int32.ofInt 1))) 0 = some (.ref 70) := x_o1 l0 rfl rfl
      have l1_1 : zld (zs1 lv 2 (.int (v2 + Int32.ofInt 1))) 1 = some (.int v1) := x_o1 l1 rfl rfl
      have l2_1 : zld (zs1 lv 2 (.int (v2 + Int32.ofInt 1))) 2 = some (.int (v2 + Int32.ofInt 1)) := zs1_ld _ _ _
      have l3_1 : zld (zs1 lv 2 (.int (v2 + Int32.ofInt 1))) 3 = some (.int v3) := x_o1 l3 rfl rfl
      generalize (zs1 lv 2 (.int (v2 + Int32.ofInt 1))) = lv1 at *
      refine r_s (fr' := (2, lv1, [])) (hp' := xW B m) (q := (.goto (-126), 3, 2, 0, .null)) rfl (fun _ => rfl) (Nat.le_refl _) ?_
      exact k2 l0_1 l1_1 l2_1 h
    · rw [if_neg (by rw [c]; decide)] at h
      refine q_li (k := 1) (i := 2) (q := (.iload_n 2, 1, 0, 0, .null)) rfl (fun _ => rfl) l2 ?_
      refine q_li (k := 1) (i := 1) (q := (.iload_n 1, 1, 0, 0, .null)) rfl (fun _ => rfl) l1 ?_
      refine r_ifc (len := 3) (a := 56) (b := 0) (v0 := .null) (cn := .eq) (off := 30) rfl (fun c => ?_) (fun c => ?_)
      · rw [if_pos c] at h
        exact T253_56 H he F _ _ k2 ih l0 l1 l2 l3 h
      · rw [if_neg (by rw [c]; decide)] at h
        refine q_lr (k := 1) (i := 0) (q := (.aload_n 0, 1, 0, 0, .null)) rfl (fun _ => rfl) l0 ?_
        refine q_li (k := 1) (i := 3) (q := (.iload_n 3, 1, 0, 0, .null)) rfl (fun _ => rfl) l3 ?_
        obtain ⟨q31, h31, h⟩ := xbind h
        refine r_call (ix := 70) (as := [.int v3]) (rest := []) (rv := some (.int q31.1)) (hp' := xW B q31.2) (pc := 31) rfl xr215 rfl rfl rfl (xkd H (by decide)) (Nat.le_of_ble_eq_true rfl) (Z215 H h31 (by omega)) (Nat.le_refl _) ?_
        refine r_if (len := 3) (a := 56) (b := 0) (v0 := .null) (cn := .ne) (off := 22) rfl (fun c => ?_) (fun c => ?_)
        · rw [if_pos c] at h
          exact T253_56 H he F _ _ k2 ih l0 l1 l2 l3 h
        · rw [if_neg (by rw [c]; decide)] at h
          refine q_lr (k := 1) (i := 0) (q := (.aload_n 0, 1, 0, 0, .null)) rfl (fun _ => rfl) l0 ?_
          refine q_li (k := 1) (i := 2) (q := (.iload_n 2, 1, 0, 0, .null)) rfl (fun _ => rfl) l2 ?_
          refine r_s (fr' := (40, lv, [.int 1, .int v2, .ref 70])) (hp' := xW B q31.2) (q := (.iconst 1, 1, 0, 0, .null)) rfl (fun _ => rfl) (Nat.le_refl _) ?_
          obtain ⟨q40, h40, h⟩ := xbind h
          refine r_call (ix := 70) (as := [.int v2, .int 1]) (rest := []) (rv := some (.int q40.1)) (hp' := xW B q40.2) (pc := 40) rfl xr208 rfl rfl rfl (xkd H (by decide)) (Nat.le_of_ble_eq_true rfl) (Z208 H h40 (by omega)) (Nat.le_refl _) ?_
          refine q_lr (k := 1) (i := 0) (q := (.aload_n 0, 1, 0, 0, .null)) rfl (fun _ => rfl) l0 ?_
          refine q_li (k := 1) (i := 3) (q := (.iload_n 3, 1, 0, 0, .null)) rfl (fun _ => rfl) l3 ?_
          refine r_s (fr' := (46, lv, [.int 1, .int v3, .ref 70, .int q40.1])) (hp' := xW B q40.2) (q := (.iconst 1, 1, 0, 0, .null)) rfl (fun _ => rfl) (Nat.le_refl _) ?_
          obtain ⟨q46, h46, h⟩ := xbind h
          refine r_call (ix := 70) (as := [.int v3, .int 1]) (rest := [.int q40.1]) (rv := some (.int q46.1)) (hp' := xW B q46.2) (pc := 46) rfl xr209 rfl rfl rfl (xkd H (by decide)) (Nat.le_of_ble_eq_true rfl) (Z209 H h46 (by omega)) (Nat.le_refl _) ?_
          refine r_ifc (len := 3) (a := 56) (b := 0) (v0 := .null) (cn := .ne) (off := 7) rfl (fun c => ?_) (fun c => ?_)
          · rw [if_pos c] at h
            exact T253_56 H he F _ _ k2 ih l0 l1 l2 l3 h
          · rw [if_neg (by rw [c]; decide)] at h
            refine r_s (fr' := (53, lv, [.int 1])) (hp' := xW B q46.2) (q := (.iconst 1, 1, 0, 0, .null)) rfl (fun _ => rfl) (Nat.le_refl _) ?_
            refine r_s (fr' := (57, lv, [.int 1])) (hp' := xW B q46.2) (q := (.goto 4, 3, 57, 0, .null)) rfl (fun _ => rfl) (Nat.le_refl _) ?_
            exact T253_57 H he F _ _ k2 ih l0 l1 l2 l3 h
def D253_2 (F : Nat) : Nat → Int32 → Int32 → xS → Option (Unit × xS)
  | 0, _, _, _ => none
  | f + 1, v1, v2, m =>
    if zcmp .ge v2 (m.1 80 2) = true then
      some ((), m)
    else
      D253_14 F (D253_2 F f) F v1 v2 0 m
set_option maxRecDepth 20000 in
theorem T253_2 {B : zHp} (H : yH0 B) {e : Nat} (he : 7 ≤ e + 1) (F : Nat) : ∀ (f : Nat) {v1 : Int32} {v2 : Int32} {lv : List (Nat × Value)} {m : xS} {x : Unit × xS}, zld lv 0 = some (.ref 70) → zld lv 1 = some (.int v1) → zld lv 2 = some (.int v2) → D253_2 F f v1 v2 m = some x → zR none e 6 none zc253 (2, lv, []) (xW B m) (none, xW B x.2) := by
  intro f
  induction f with
  | zero => intro v1 v2 lv m x l0 l1 l2 h; cases h
  | succ f ih =>
    intro v1 v2 lv m x l0 l1 l2 h
    unfold D253_2 at h
    refine q_li (k := 1) (i := 2) (q := (.iload_n 2, 1, 0, 0, .null)) rfl (fun _ => rfl) l2 ?_
    refine q_lr (k := 1) (i := 0) (q := (.aload_n 0, 1, 0, 0, .null)) rfl (fun _ => rfl) l0 ?_
    refine r_gr (c := 80) H (pc := 4) rfl (by decide) (by decide) ?_
    refine r_s (fr' := (8, lv, [.int 2, .ref 80, .int v2])) (hp' := xW B m) (q := (.iconst 2, 1, 0, 0, .null)) rfl (fun _ => rfl) (Nat.le_refl _) ?_
    refine q_al (n := 148) (v := (m.1 80 2)) H (pc := 8) rfl (by decide) (by decide) rfl ?_
    refine r_ifc (len := 3) (a := 131) (b := 0) (v0 := .null) (cn := .ge) (off := 122) rfl (fun c => ?_) (fun c => ?_)
    · rw [if_pos c] at h
      obtain rfl := Option.some.inj h
      exact r_ret (q := (.return_, 1, 0, 0, .null)) rfl rfl (fun _ => rfl)
    · rw [if_neg (by rw [c]; decide)] at h
      refine r_s (fr' := (13, lv, [.int 0])) (hp' := xW B m) (q := (.iconst 0, 1, 0, 0, .null)) rfl (fun _ => rfl) (Nat.le_refl _) ?_
      refine q_si (k := 1) (i := 3) (q := (.istore_n 3, 1, 0, 0, .null)) rfl (fun _ => rfl) (by decide) ?_
      have l0_1 : zld (zs1 lv 3 (.int 0)) 0 = some (.ref 70) := x_o1 l0 rfl rfl
      have l1_1 : zld (zs1 lv 3 (.int 0)) 1 = some (.int v1) := x_o1 l1 rfl rfl
      have l2_1 : zld (zs1 lv 3 (.int 0)) 2 = some (.int v2) := x_o1 l2 rfl rfl
      have l3_1 : zld (zs1 lv 3 (.int 0)) 3 = some (.int 0) := zs1_ld _ _ _
      generalize (zs1 lv 3 (.int 0)) = lv1 at *
      exact T253_14 H he F _ ih F l0_1 l1_1 l2_1 l3_1 h
def D253 (F : Nat) (v1 : Int32) (m : xS) : Option (Unit × xS) :=
  D253_2 F F v1 0 m
set_option maxRecDepth 20000 in
theorem T253 {B : zHp} (H : yH0 B) {e : Nat} (he : 7 ≤ e + 1) (F : Nat) {v1 : Int32} {lv : List (Nat × Value)} {m : xS} {x : Unit × xS} (l0 : zld lv 0 = some (.ref 70)) (l1 : zld lv 1 = some (.int v1)) (h : D253 F v1 m = some x) : zR none e 6 none zc253 (0, lv, []) (xW B m) (none, xW B x.2) := by
  unfold D253 at h
  refine r_s (fr' := (1, lv, [.int 0])) (hp' := xW B m) (q := (.iconst 0, 1, 0, 0, .null)) rfl (fun _ => rfl) (Nat.le_refl _) ?_
  refine q_si (k := 1) (i := 2) (q := (.istore_n 2, 1, 0, 0, .null)) rfl (fun _ => rfl) (by decide) ?_
  have l0_1 : zld (zs1 lv 2 (.int 0)) 0 = some (.ref 70) := x_o1 l0 rfl rfl
  have l1_1 : zld (zs1 lv 2 (.int 0)) 1 = some (.int v1) := x_o1 l1 rfl rfl
  have l2_1 : zld (zs1 lv 2 (.int 0)) 2 = some (.int 0) := zs1_ld _ _ _
  generalize (zs1 lv 2 (.int 0)) = lv1 at *
  exact T253_2 H he F F l0_1 l1_1 l2_1 h
set_option maxRecDepth 20000 in
theorem Z253 {B : zHp} (H : yH0 B) {F : Nat} {a1 : Int32} {m : xS} {x : Unit × xS} (h : D253 F a1 m = some x) {d : Nat} (hd : 7 ≤ d) : zCan d 253 [.ref 70, .int a1] (xW B m) (none, xW B x.2) := by
  obtain ⟨e, rfl⟩ : ∃ e, d = e + 1 := ⟨d - 1, by omega⟩
  refine zCan_body (nL := 6) (rt := none) (cd := zc253) (xg253) ⟨Nat.le_of_ble_eq_true rfl, by decide⟩ (Nat.le_refl _) ?_
  exact T253 H hd F rfl rfl h
/-- LentToolsModel.toolIn -/
def D254 (F : Nat) (v1 : Int32) (v2 : Int32) (m : xS) : Option (Int32 × xS) :=
  (D235 F ((m.1 80 2) + 1) (((m.1 80 3) - 1) - v2) m).bind fun q19 =>
    if (!(q19.1 == 0)) = true then
      if (!(((q19.2.1 80 2) + 1) == 0)) = true then
        some ((((v1 / q19.1) - (v1 / q19.1) / ((q19.2.1 80 2) + 1) * ((q19.2.1 80 2) + 1)) - 1), q19.2)
      else none
    else none
set_option maxRecDepth 20000 in
theorem T254 {B : zHp} (H : yH0 B) {e : Nat} (he : 2 ≤ e + 1) (F : Nat) {v1 : Int32} {v2 : Int32} {lv : List (Nat × Value)} {m : xS} {x : Int32 × xS} (l0 : zld lv 0 = some (.ref 70)) (l1 : zld lv 1 = some (.int v1)) (l2 : zld lv 2 = some (.int v2)) (h : D254 F v1 v2 m = some x) : zR none e 3 (some .int) zc254 (0, lv, []) (xW B m) (some (.int x.1), xW B x.2) := by
  unfold D254 at h
  refine q_li (k := 1) (i := 1) (q := (.iload_n 1, 1, 0, 0, .null)) rfl (fun _ => rfl) l1 ?_
  refine q_lr (k := 1) (i := 0) (q := (.aload_n 0, 1, 0, 0, .null)) rfl (fun _ => rfl) l0 ?_
  refine r_gr (c := 80) H (pc := 2) rfl (by decide) (by decide) ?_
  refine r_s (fr' := (6, lv, [.int 2, .ref 80, .int v1])) (hp' := xW B m) (q := (.iconst 2, 1, 0, 0, .null)) rfl (fun _ => rfl) (Nat.le_refl _) ?_
  refine q_al (n := 148) (v := (m.1 80 2)) H (pc := 6) rfl (by decide) (by decide) rfl ?_
  refine r_s (fr' := (8, lv, [.int 1, .int (m.1 80 2), .int v1])) (hp' := xW B m) (q := (.iconst 1, 1, 0, 0, .null)) rfl (fun _ => rfl) (Nat.le_refl _) ?_
  refine r_s (fr' := (9, lv, [.int ((m.1 80 2) + 1), .int v1])) (hp' := xW B m) (q := (.iadd, 1, 0, 0, .null)) rfl (fun _ => rfl) (Nat.le_refl _) ?_
  refine q_lr (k := 1) (i := 0) (q := (.aload_n 0, 1, 0, 0, .null)) rfl (fun _ => rfl) l0 ?_
  refine r_gr (c := 80) H (pc := 10) rfl (by decide) (by decide) ?_
  refine r_s (fr' := (14, lv, [.int 3, .ref 80, .int ((m.1 80 2) + 1), .int v1])) (hp' := xW B m) (q := (.iconst 3, 1, 0, 0, .null)) rfl (fun _ => rfl) (Nat.le_refl _) ?_
  refine q_al (n := 148) (v := (m.1 80 3)) H (pc := 14) rfl (by decide) (by decide) rfl ?_
  refine r_s (fr' := (16, lv, [.int 1, .int (m.1 80 3), .int ((m.1 80 2) + 1), .int v1])) (hp' := xW B m) (q := (.iconst 1, 1, 0, 0, .null)) rfl (fun _ => rfl) (Nat.le_refl _) ?_
  refine r_s (fr' := (17, lv, [.int ((m.1 80 3) - 1), .int ((m.1 80 2) + 1), .int v1])) (hp' := xW B m) (q := (.isub, 1, 0, 0, .null)) rfl (fun _ => rfl) (Nat.le_refl _) ?_
  refine q_li (k := 1) (i := 2) (q := (.iload_n 2, 1, 0, 0, .null)) rfl (fun _ => rfl) l2 ?_
  refine r_s (fr' := (19, lv, [.int (((m.1 80 3) - 1) - v2), .int ((m.1 80 2) + 1), .int v1])) (hp' := xW B m) (q := (.isub, 1, 0, 0, .null)) rfl (fun _ => rfl) (Nat.le_refl _) ?_
  obtain ⟨q19, h19, h⟩ := xbind h
  refine r_callS (as := [.int ((m.1 80 2) + 1), .int (((m.1 80 3) - 1) - v2)]) (rest := [.int v1]) (rv := some (.int q19.1)) (hp' := xW B q19.2) (pc := 19) rfl xr235 rfl rfl rfl (Nat.le_of_ble_eq_true rfl) (Z235 H h19 (by omega)) (Nat.le_refl _) ?_
  obtain ⟨c1, h⟩ := xif h
  refine q_div (f := fun x y => x / y) (q := (.idiv, 1, 0, 0, .null)) rfl (fun _ => rfl) c1 ?_
  refine q_lr (k := 1) (i := 0) (q := (.aload_n 0, 1, 0, 0, .null)) rfl (fun _ => rfl) l0 ?_
  refine r_gr (c := 80) H (pc := 24) rfl (by decide) (by decide) ?_
  refine r_s (fr' := (28, lv, [.int 2, .ref 80, .int (v1 / q19.1)])) (hp' := xW B q19.2) (q := (.iconst 2, 1, 0, 0, .null)) rfl (fun _ => rfl) (Nat.le_refl _) ?_
  refine q_al (n := 148) (v := (q19.2.1 80 2)) H (pc := 28) rfl (by decide) (by decide) rfl ?_
  refine r_s (fr' := (30, lv, [.int 1, .int (q19.2.1 80 2), .int (v1 / q19.1)])) (hp' := xW B q19.2) (q := (.iconst 1, 1, 0, 0, .null)) rfl (fun _ => rfl) (Nat.le_refl _) ?_
  refine r_s (fr' := (31, lv, [.int ((q19.2.1 80 2) + 1), .int (v1 / q19.1)])) (hp' := xW B q19.2) (q := (.iadd, 1, 0, 0, .null)) rfl (fun _ => rfl) (Nat.le_refl _) ?_
  obtain ⟨c2, h⟩ := xif h
  refine q_div (f := fun x y => x - x / y * y) (q := (.irem, 1, 0, 0, .null)) rfl (fun _ => rfl) c2 ?_
  refine r_s (fr' := (33, lv, [.int 1, .int ((v1 / q19.1) - (v1 / q19.1) / ((q19.2.1 80 2) + 1) * ((q19.2.1 80 2) + 1))])) (hp' := xW B q19.2) (q := (.iconst 1, 1, 0, 0, .null)) rfl (fun _ => rfl) (Nat.le_refl _) ?_
  refine r_s (fr' := (34, lv, [.int (((v1 / q19.1) - (v1 / q19.1) / ((q19.2.1 80 2) + 1) * ((q19.2.1 80 2) + 1)) - 1)])) (hp' := xW B q19.2) (q := (.isub, 1, 0, 0, .null)) rfl (fun _ => rfl) (Nat.le_refl _) ?_
  obtain rfl := Option.some.inj h
  exact q_ri (q := (.ireturn, 1, 0, 0, .null)) rfl (fun _ => rfl) rfl rfl
set_option maxRecDepth 20000 in
theorem Z254 {B : zHp} (H : yH0 B) {F : Nat} {a1 : Int32} {a2 : Int32} {m : xS} {x : Int32 × xS} (h : D254 F a1 a2 m = some x) {d : Nat} (hd : 2 ≤ d) : zCan d 254 [.ref 70, .int a1, .int a2] (xW B m) (some (.int x.1), xW B x.2) := by
  obtain ⟨e, rfl⟩ : ∃ e, d = e + 1 := ⟨d - 1, by omega⟩
  refine zCan_body (nL := 3) (rt := (some .int)) (cd := zc254) (xg254) ⟨Nat.le_of_ble_eq_true rfl, by decide⟩ (Nat.le_refl _) ?_
  exact T254 H hd F rfl rfl rfl h
/-- LentToolsModel.payBy -/
def D255_79 (F : Nat) (g7 : Int32 → Int32 → Int32 → Int32 → xS → Option (Int32 × xS)) (v1 : Int32) (v2 : Int32) (v3 : Int32) (v4 : Int32) (v5 : Int32) (m : xS) : Option (Int32 × xS) :=
  g7 v1 v2 v3 (v4 + Int32.ofInt 1) m
set_option maxRecDepth 20000 in
theorem T255_79 {B : zHp} (H : yH0 B) {e : Nat} (he : 3 ≤ e + 1) (F : Nat) (g7 : Int32 → Int32 → Int32 → Int32 → xS → Option (Int32 × xS)) (k7 : ∀ {v1 : Int32} {v2 : Int32} {v3 : Int32} {v4 : Int32} {lv : List (Nat × Value)} {m : xS} {x : Int32 × xS}, zld lv 0 = some (.ref 70) → zld lv 1 = some (.int v1) → zld lv 2 = some (.int v2) → zld lv 3 = some (.int v3) → zld lv 4 = some (.int v4) → g7 v1 v2 v3 v4 m = some x → zR none e 6 (some .int) zc255 (7, lv, []) (xW B m) (some (.int x.1), xW B x.2)) {v1 : Int32} {v2 : Int32} {v3 : Int32} {v4 : Int32} {v5 : Int32} {lv : List (Nat × Value)} {m : xS} {x : Int32 × xS} (l0 : zld lv 0 = some (.ref 70)) (l1 : zld lv 1 = some (.int v1)) (l2 : zld lv 2 = some (.int v2)) (l3 : zld lv 3 = some (.int v3)) (l4 : zld lv 4 = some (.int v4)) (l5 : zld lv 5 = some (.int v5)) (h : D255_79 F g7 v1 v2 v3 v4 v5 m = some x) : zR none e 6 (some .int) zc255 (79, lv, []) (xW B m) (some (.int x.1), xW B x.2) := by
  unfold D255_79 at h
  refine q_inc (i := 4) (n := 1) (q := (.iinc 4 1, 3, 0, 0, .null)) rfl (fun _ => rfl) l4 (by decide) ?_
  have l0_1 : zld (zs1 lv 4 (.int (v4 + Int32.ofInt 1))) 0 = some (.ref 70) := x_o1 l0 rfl rfl
  have l1_1 : zld (zs1 lv 4 (.int (v4 + Int32.ofInt 1))) 1 = some (.int v1) := x_o1 l1 rfl rfl
  have l2_1 : zld (zs1 lv 4 (.int (v4 + Int32.ofInt 1))) 2 = some (.int v2) := x_o1 l2 rfl rfl
  have l3_1 : zld (zs1 lv 4 (.int (v4 + Int32.ofInt 1))) 3 = some (.int v3) := x_o1 l3 rfl rfl
  have l4_1 : zld (zs1 lv 4 (.int (v4 + Int32.ofInt 1))) 4 = some (.int (v4 + Int32.ofInt 1)) := zs1_ld _ _ _
  have l5_1 : zld (zs1 lv 4 (.int (v4 + Int32.ofInt 1))) 5 = some (.int v5) := x_o1 l5 rfl rfl
  generalize (zs1 lv 4 (.int (v4 + Int32.ofInt 1))) = lv1 at *
  refine r_s (fr' := (7, lv1, [])) (hp' := xW B m) (q := (.goto (-75), 3, 7, 0, .null)) rfl (fun _ => rfl) (Nat.le_refl _) ?_
  exact k7 l0_1 l1_1 l2_1 l3_1 l4_1 h
def D255_60 (F : Nat) (v1 : Int32) (v2 : Int32) (v3 : Int32) (v4 : Int32) (v5 : Int32) (m : xS) : Option (Int32 × xS) :=
  some ((-1), m)
set_option maxRecDepth 20000 in
theorem T255_60 {B : zHp} (H : yH0 B) {e : Nat} (he : 3 ≤ e + 1) (F : Nat) {v1 : Int32} {v2 : Int32} {v3 : Int32} {v4 : Int32} {v5 : Int32} {lv : List (Nat × Value)} {m : xS} {x : Int32 × xS} (l0 : zld lv 0 = some (.ref 70)) (l1 : zld lv 1 = some (.int v1)) (l2 : zld lv 2 = some (.int v2)) (l3 : zld lv 3 = some (.int v3)) (l4 : zld lv 4 = some (.int v4)) (l5 : zld lv 5 = some (.int v5)) (h : D255_60 F v1 v2 v3 v4 v5 m = some x) : zR none e 6 (some .int) zc255 (60, lv, []) (xW B m) (some (.int x.1), xW B x.2) := by
  unfold D255_60 at h
  refine r_s (fr' := (61, lv, [.int (-1)])) (hp' := xW B m) (q := (.iconst (-1), 1, 0, 0, .null)) rfl (fun _ => rfl) (Nat.le_refl _) ?_
  obtain rfl := Option.some.inj h
  exact q_ri (q := (.ireturn, 1, 0, 0, .null)) rfl (fun _ => rfl) rfl rfl
def D255_7 (F : Nat) : Nat → Int32 → Int32 → Int32 → Int32 → xS → Option (Int32 × xS)
  | 0, _, _, _, _, _ => none
  | f + 1, v1, v2, v3, v4, m =>
    if zcmp .ge v4 (m.1 80 3) = true then
      some (v3, m)
    else
      (D254 F v1 v4 m).bind fun q22 =>
        if zcmp .ge q22.1 0 = true then
          if xib ((6 * q22.1) + v4) 36 = true then
            if zcmp .eq (q22.2.1 82 (((6 * q22.1) + v4) : Int32).toNatClampNeg) 0 = true then
              D255_60 F v1 v2 v3 v4 q22.1 q22.2
            else
              (D159 F v2 q22.1 q22.2).bind fun q54 =>
                if zcmp .eq q54.1 0 = true then
                  (D209 F v4 3 q54.2).bind fun q74 =>
                    D255_79 F (D255_7 F f) v1 (v2 ||| (1 <<< (q22.1 &&& 31))) (v3 + q74.1) v4 q22.1 q74.2
                else
                  D255_60 F v1 v2 v3 v4 q22.1 q54.2
          else none
        else
          D255_79 F (D255_7 F f) v1 v2 v3 v4 q22.1 q22.2
set_option maxRecDepth 20000 in
theorem T255_7 {B : zHp} (H : yH0 B) {e : Nat} (he : 3 ≤ e + 1) (F : Nat) : ∀ (f : Nat) {v1 : Int32} {v2 : Int32} {v3 : Int32} {v4 : Int32} {lv : List (Nat × Value)} {m : xS} {x : Int32 × xS}, zld lv 0 = some (.ref 70) → zld lv 1 = some (.int v1) → zld lv 2 = some (.int v2) → zld lv 3 = some (.int v3) → zld lv 4 = some (.int v4) → D255_7 F f v1 v2 v3 v4 m = some x → zR none e 6 (some .int) zc255 (7, lv, []) (xW B m) (some (.int x.1), xW B x.2) := by
  intro f
  induction f with
  | zero => intro v1 v2 v3 v4 lv m x l0 l1 l2 l3 l4 h; cases h
  | succ f ih =>
    intro v1 v2 v3 v4 lv m x l0 l1 l2 l3 l4 h
    unfold D255_7 at h
    refine q_li (k := 2) (i := 4) (q := (.iload 4, 2, 0, 0, .null)) rfl (fun _ => rfl) l4 ?_
    refine q_lr (k := 1) (i := 0) (q := (.aload_n 0, 1, 0, 0, .null)) rfl (fun _ => rfl) l0 ?_
    refine r_gr (c := 80) H (pc := 10) rfl (by decide) (by decide) ?_
    refine r_s (fr' := (14, lv, [.int 3, .ref 80, .int v4])) (hp' := xW B m) (q := (.iconst 3, 1, 0, 0, .null)) rfl (fun _ => rfl) (Nat.le_refl _) ?_
    refine q_al (n := 148) (v := (m.1 80 3)) H (pc := 14) rfl (by decide) (by decide) rfl ?_
    refine r_ifc (len := 3) (a := 85) (b := 0) (v0 := .null) (cn := .ge) (off := 70) rfl (fun c => ?_) (fun c => ?_)
    · rw [if_pos c] at h
      refine q_li (k := 1) (i := 3) (q := (.iload_n 3, 1, 0, 0, .null)) rfl (fun _ => rfl) l3 ?_
      obtain rfl := Option.some.inj h
      exact q_ri (q := (.ireturn, 1, 0, 0, .null)) rfl (fun _ => rfl) rfl rfl
    · rw [if_neg (by rw [c]; decide)] at h
      refine q_lr (k := 1) (i := 0) (q := (.aload_n 0, 1, 0, 0, .null)) rfl (fun _ => rfl) l0 ?_
      refine q_li (k := 1) (i := 1) (q := (.iload_n 1, 1, 0, 0, .null)) rfl (fun _ => rfl) l1 ?_
      refine q_li (k := 2) (i := 4) (q := (.iload 4, 2, 0, 0, .null)) rfl (fun _ => rfl) l4 ?_
      obtain ⟨q22, h22, h⟩ := xbind h
      refine r_call (ix := 70) (as := [.int v1, .int v4]) (rest := []) (rv := some (.int q22.1)) (hp' := xW B q22.2) (pc := 22) rfl xr254 rfl rfl rfl (xkd H (by decide)) (Nat.le_of_ble_eq_true rfl) (Z254 H h22 (by omega)) (Nat.le_refl _) ?_
      refine q_si (k := 2) (i := 5) (q := (.istore 5, 2, 0, 0, .null)) rfl (fun _ => rfl) (by decide) ?_
      have l0_1 : zld (zs1 lv 5 (.int q22.1)) 0 = some (.ref 70) := x_o1 l0 rfl rfl
      have l1_1 : zld (zs1 lv 5 (.int q22.1)) 1 = some (.int v1) := x_o1 l1 rfl rfl
      have l2_1 : zld (zs1 lv 5 (.int q22.1)) 2 = some (.int v2) := x_o1 l2 rfl rfl
      have l3_1 : zld (zs1 lv 5 (.int q22.1)) 3 = some (.int v3) := x_o1 l3 rfl rfl
      have l4_1 : zld (zs1 lv 5 (.int q22.1)) 4 = some (.int v4) := x_o1 l4 rfl rfl
      have l5_1 : zld (zs1 lv 5 (.int q22.1)) 5 = some (.int q22.1) := zs1_ld _ _ _
      generalize (zs1 lv 5 (.int q22.1)) = lv1 at *
      refine q_li (k := 2) (i := 5) (q := (.iload 5, 2, 0, 0, .null)) rfl (fun _ => rfl) l5_1 ?_
      refine r_if (len := 3) (a := 35) (b := 0) (v0 := .null) (cn := .ge) (off := 6) rfl (fun c => ?_) (fun c => ?_)
      · rw [if_pos c] at h
        refine q_lr (k := 1) (i := 0) (q := (.aload_n 0, 1, 0, 0, .null)) rfl (fun _ => rfl) l0_1 ?_
        refine r_gr (c := 82) H (pc := 36) rfl (by decide) (by decide) ?_
        refine r_s (fr' := (41, lv1, [.int 6, .ref 82])) (hp' := xW B q22.2) (q := (.bipush 6, 2, 0, 0, .null)) rfl (fun _ => rfl) (Nat.le_refl _) ?_
        refine q_li (k := 2) (i := 5) (q := (.iload 5, 2, 0, 0, .null)) rfl (fun _ => rfl) l5_1 ?_
        refine r_s (fr' := (44, lv1, [.int (6 * q22.1), .ref 82])) (hp' := xW B q22.2) (q := (.imul, 1, 0, 0, .null)) rfl (fun _ => rfl) (Nat.le_refl _) ?_
        refine q_li (k := 2) (i := 4) (q := (.iload 4, 2, 0, 0, .null)) rfl (fun _ => rfl) l4_1 ?_
        refine r_s (fr' := (47, lv1, [.int ((6 * q22.1) + v4), .ref 82])) (hp' := xW B q22.2) (q := (.iadd, 1, 0, 0, .null)) rfl (fun _ => rfl) (Nat.le_refl _) ?_
        obtain ⟨c2, h⟩ := xif h
        refine q_bl (n := 36) (v := (q22.2.1 82 (((6 * q22.1) + v4) : Int32).toNatClampNeg)) (k := 2) H (pc := 47) rfl (by decide) (by decide) c2 rfl ?_
        refine r_if (len := 3) (a := 60) (b := 0) (v0 := .null) (cn := .eq) (off := 12) rfl (fun c => ?_) (fun c => ?_)
        · rw [if_pos c] at h
          exact T255_60 H he F l0_1 l1_1 l2_1 l3_1 l4_1 l5_1 h
        · rw [if_neg (by rw [c]; decide)] at h
          refine q_li (k := 1) (i := 2) (q := (.iload_n 2, 1, 0, 0, .null)) rfl (fun _ => rfl) l2_1 ?_
          refine q_li (k := 2) (i := 5) (q := (.iload 5, 2, 0, 0, .null)) rfl (fun _ => rfl) l5_1 ?_
          obtain ⟨q54, h54, h⟩ := xbind h
          refine r_callS (as := [.int v2, .int q22.1]) (rest := []) (rv := some (.int q54.1)) (hp' := xW B q54.2) (pc := 54) rfl xr159 rfl rfl rfl (Nat.le_of_ble_eq_true rfl) (Z159 H h54 (by omega)) (Nat.le_refl _) ?_
          refine r_if (len := 3) (a := 62) (b := 0) (v0 := .null) (cn := .eq) (off := 5) rfl (fun c => ?_) (fun c => ?_)
          · rw [if_pos c] at h
            refine q_li (k := 1) (i := 2) (q := (.iload_n 2, 1, 0, 0, .null)) rfl (fun _ => rfl) l2_1 ?_
            refine r_s (fr' := (64, lv1, [.int 1, .int v2])) (hp' := xW B q54.2) (q := (.iconst 1, 1, 0, 0, .null)) rfl (fun _ => rfl) (Nat.le_refl _) ?_
            refine q_li (k := 2) (i := 5) (q := (.iload 5, 2, 0, 0, .null)) rfl (fun _ => rfl) l5_1 ?_
            refine r_s (fr' := (67, lv1, [.int (1 <<< (q22.1 &&& 31)), .int v2])) (hp' := xW B q54.2) (q := (.ishl, 1, 0, 0, .null)) rfl (fun _ => rfl) (Nat.le_refl _) ?_
            refine r_s (fr' := (68, lv1, [.int (v2 ||| (1 <<< (q22.1 &&& 31)))])) (hp' := xW B q54.2) (q := (.ior, 1, 0, 0, .null)) rfl (fun _ => rfl) (Nat.le_refl _) ?_
            refine q_si (k := 1) (i := 2) (q := (.istore_n 2, 1, 0, 0, .null)) rfl (fun _ => rfl) (by decide) ?_
            have l0_3 : zld (zs1 lv1 2 (.int (v2 ||| (1 <<< (q22.1 &&& 31))))) 0 = some (.ref 70) := x_o1 l0_1 rfl rfl
            have l1_3 : zld (zs1 lv1 2 (.int (v2 ||| (1 <<< (q22.1 &&& 31))))) 1 = some (.int v1) := x_o1 l1_1 rfl rfl
            have l2_3 : zld (zs1 lv1 2 (.int (v2 ||| (1 <<< (q22.1 &&& 31))))) 2 = some (.int (v2 ||| (1 <<< (q22.1 &&& 31)))) := zs1_ld _ _ _
            have l3_3 : zld (zs1 lv1 2 (.int (v2 ||| (1 <<< (q22.1 &&& 31))))) 3 = some (.int v3) := x_o1 l3_1 rfl rfl
            have l4_3 : zld (zs1 lv1 2 (.int (v2 ||| (1 <<< (q22.1 &&& 31))))) 4 = some (.int v4) := x_o1 l4_1 rfl rfl
            have l5_3 : zld (zs1 lv1 2 (.int (v2 ||| (1 <<< (q22.1 &&& 31))))) 5 = some (.int q22.1) := x_o1 l5_1 rfl rfl
            generalize (zs1 lv1 2 (.int (v2 ||| (1 <<< (q22.1 &&& 31))))) = lv3 at *
            refine q_li (k := 1) (i := 3) (q := (.iload_n 3, 1, 0, 0, .null)) rfl (fun _ => rfl) l3_3 ?_
            refine q_lr (k := 1) (i := 0) (q := (.aload_n 0, 1, 0, 0, .null)) rfl (fun _ => rfl) l0_3 ?_
            refine q_li (k := 2) (i := 4) (q := (.iload 4, 2, 0, 0, .null)) rfl (fun _ => rfl) l4_3 ?_
            refine r_s (fr' := (74, lv3, [.int 3, .int v4, .ref 70, .int v3])) (hp' := xW B q54.2) (q := (.iconst 3, 1, 0, 0, .null)) rfl (fun _ => rfl) (Nat.le_refl _) ?_
            obtain ⟨q74, h74, h⟩ := xbind h
            refine r_call (ix := 70) (as := [.int v4, .int 3]) (rest := [.int v3]) (rv := some (.int q74.1)) (hp' := xW B q74.2) (pc := 74) rfl xr209 rfl rfl rfl (xkd H (by decide)) (Nat.le_of_ble_eq_true rfl) (Z209 H h74 (by omega)) (Nat.le_refl _) ?_
            refine r_s (fr' := (78, lv3, [.int (v3 + q74.1)])) (hp' := xW B q74.2) (q := (.iadd, 1, 0, 0, .null)) rfl (fun _ => rfl) (Nat.le_refl _) ?_
            refine q_si (k := 1) (i := 3) (q := (.istore_n 3, 1, 0, 0, .null)) rfl (fun _ => rfl) (by decide) ?_
            have l0_4 : zld (zs1 lv3 3 (.int (v3 + q74.1))) 0 = some (.ref 70) := x_o1 l0_3 rfl rfl
            have l1_4 : zld (zs1 lv3 3 (.int (v3 + q74.1))) 1 = some (.int v1) := x_o1 l1_3 rfl rfl
            have l2_4 : zld (zs1 lv3 3 (.int (v3 + q74.1))) 2 = some (.int (v2 ||| (1 <<< (q22.1 &&& 31)))) := x_o1 l2_3 rfl rfl
            have l3_4 : zld (zs1 lv3 3 (.int (v3 + q74.1))) 3 = some (.int (v3 + q74.1)) := zs1_ld _ _ _
            have l4_4 : zld (zs1 lv3 3 (.int (v3 + q74.1))) 4 = some (.int v4) := x_o1 l4_3 rfl rfl
            have l5_4 : zld (zs1 lv3 3 (.int (v3 + q74.1))) 5 = some (.int q22.1) := x_o1 l5_3 rfl rfl
            generalize (zs1 lv3 3 (.int (v3 + q74.1))) = lv4 at *
            exact T255_79 H he F _ ih l0_4 l1_4 l2_4 l3_4 l4_4 l5_4 h
          · rw [if_neg (by rw [c]; decide)] at h
            exact T255_60 H he F l0_1 l1_1 l2_1 l3_1 l4_1 l5_1 h
      · rw [if_neg (by rw [c]; decide)] at h
        refine r_s (fr' := (79, lv1, [])) (hp' := xW B q22.2) (q := (.goto 47, 3, 79, 0, .null)) rfl (fun _ => rfl) (Nat.le_refl _) ?_
        exact T255_79 H he F _ ih l0_1 l1_1 l2_1 l3_1 l4_1 l5_1 h
def D255 (F : Nat) (v1 : Int32) (m : xS) : Option (Int32 × xS) :=
  D255_7 F F v1 0 0 0 m
set_option maxRecDepth 20000 in
theorem T255 {B : zHp} (H : yH0 B) {e : Nat} (he : 3 ≤ e + 1) (F : Nat) {v1 : Int32} {lv : List (Nat × Value)} {m : xS} {x : Int32 × xS} (l0 : zld lv 0 = some (.ref 70)) (l1 : zld lv 1 = some (.int v1)) (h : D255 F v1 m = some x) : zR none e 6 (some .int) zc255 (0, lv, []) (xW B m) (some (.int x.1), xW B x.2) := by
  unfold D255 at h
  refine r_s (fr' := (1, lv, [.int 0])) (hp' := xW B m) (q := (.iconst 0, 1, 0, 0, .null)) rfl (fun _ => rfl) (Nat.le_refl _) ?_
  refine q_si (k := 1) (i := 2) (q := (.istore_n 2, 1, 0, 0, .null)) rfl (fun _ => rfl) (by decide) ?_
  have l0_1 : zld (zs1 lv 2 (.int 0)) 0 = some (.ref 70) := x_o1 l0 rfl rfl
  have l1_1 : zld (zs1 lv 2 (.int 0)) 1 = some (.int v1) := x_o1 l1 rfl rfl
  have l2_1 : zld (zs1 lv 2 (.int 0)) 2 = some (.int 0) := zs1_ld _ _ _
  generalize (zs1 lv 2 (.int 0)) = lv1 at *
  refine r_s (fr' := (3, lv1, [.int 0])) (hp' := xW B m) (q := (.iconst 0, 1, 0, 0, .null)) rfl (fun _ => rfl) (Nat.le_refl _) ?_
  refine q_si (k := 1) (i := 3) (q := (.istore_n 3, 1, 0, 0, .null)) rfl (fun _ => rfl) (by decide) ?_
  have l0_2 : zld (zs1 lv1 3 (.int 0)) 0 = some (.ref 70) := x_o1 l0_1 rfl rfl
  have l1_2 : zld (zs1 lv1 3 (.int 0)) 1 = some (.int v1) := x_o1 l1_1 rfl rfl
  have l2_2 : zld (zs1 lv1 3 (.int 0)) 2 = some (.int 0) := x_o1 l2_1 rfl rfl
  have l3_2 : zld (zs1 lv1 3 (.int 0)) 3 = some (.int 0) := zs1_ld _ _ _
  generalize (zs1 lv1 3 (.int 0)) = lv2 at *
  refine r_s (fr' := (5, lv2, [.int 0])) (hp' := xW B m) (q := (.iconst 0, 1, 0, 0, .null)) rfl (fun _ => rfl) (Nat.le_refl _) ?_
  refine q_si (k := 2) (i := 4) (q := (.istore 4, 2, 0, 0, .null)) rfl (fun _ => rfl) (by decide) ?_
  have l0_3 : zld (zs1 lv2 4 (.int 0)) 0 = some (.ref 70) := x_o1 l0_2 rfl rfl
  have l1_3 : zld (zs1 lv2 4 (.int 0)) 1 = some (.int v1) := x_o1 l1_2 rfl rfl
  have l2_3 : zld (zs1 lv2 4 (.int 0)) 2 = some (.int 0) := x_o1 l2_2 rfl rfl
  have l3_3 : zld (zs1 lv2 4 (.int 0)) 3 = some (.int 0) := x_o1 l3_2 rfl rfl
  have l4_3 : zld (zs1 lv2 4 (.int 0)) 4 = some (.int 0) := zs1_ld _ _ _
  generalize (zs1 lv2 4 (.int 0)) = lv3 at *
  exact T255_7 H he F F l0_3 l1_3 l2_3 l3_3 l4_3 h
set_option maxRecDepth 20000 in
theorem Z255 {B : zHp} (H : yH0 B) {F : Nat} {a1 : Int32} {m : xS} {x : Int32 × xS} (h : D255 F a1 m = some x) {d : Nat} (hd : 3 ≤ d) : zCan d 255 [.ref 70, .int a1] (xW B m) (some (.int x.1), xW B x.2) := by
  obtain ⟨e, rfl⟩ : ∃ e, d = e + 1 := ⟨d - 1, by omega⟩
  refine zCan_body (nL := 6) (rt := (some .int)) (cd := zc255) (xg255) ⟨Nat.le_of_ble_eq_true rfl, by decide⟩ (Nat.le_refl _) ?_
  exact T255 H hd F rfl rfl h
/-- LentToolsModel.matches -/
def D256_62 (F : Nat) (g14 : Int32 → Int32 → Int32 → xS → Option (Int32 × xS)) (v1 : Int32) (v2 : Int32) (v3 : Int32) (v4 : Int32) (m : xS) : Option (Int32 × xS) :=
  g14 v1 v2 (v3 + Int32.ofInt 1) m
set_option maxRecDepth 20000 in
theorem T256_62 {B : zHp} (H : yH0 B) {e : Nat} (he : 8 ≤ e + 1) (F : Nat) (g14 : Int32 → Int32 → Int32 → xS → Option (Int32 × xS)) (k14 : ∀ {v1 : Int32} {v2 : Int32} {v3 : Int32} {lv : List (Nat × Value)} {m : xS} {x : Int32 × xS}, zld lv 0 = some (.ref 70) → zld lv 1 = some (.int v1) → zld lv 2 = some (.int v2) → zld lv 3 = some (.int v3) → g14 v1 v2 v3 m = some x → zR none e 5 (some .int) zc256 (14, lv, []) (xW B m) (some (.int x.1), xW B x.2)) {v1 : Int32} {v2 : Int32} {v3 : Int32} {v4 : Int32} {lv : List (Nat × Value)} {m : xS} {x : Int32 × xS} (l0 : zld lv 0 = some (.ref 70)) (l1 : zld lv 1 = some (.int v1)) (l2 : zld lv 2 = some (.int v2)) (l3 : zld lv 3 = some (.int v3)) (l4 : zld lv 4 = some (.int v4)) (h : D256_62 F g14 v1 v2 v3 v4 m = some x) : zR none e 5 (some .int) zc256 (62, lv, []) (xW B m) (some (.int x.1), xW B x.2) := by
  unfold D256_62 at h
  refine q_inc (i := 3) (n := 1) (q := (.iinc 3 1, 3, 0, 0, .null)) rfl (fun _ => rfl) l3 (by decide) ?_
  have l0_1 : zld (zs1 lv 3 (.int (v3 + Int32.ofInt 1))) 0 = some (.ref 70) := x_o1 l0 rfl rfl
  have l1_1 : zld (zs1 lv 3 (.int (v3 + Int32.ofInt 1))) 1 = some (.int v1) := x_o1 l1 rfl rfl
  have l2_1 : zld (zs1 lv 3 (.int (v3 + Int32.ofInt 1))) 2 = some (.int v2) := x_o1 l2 rfl rfl
  have l3_1 : zld (zs1 lv 3 (.int (v3 + Int32.ofInt 1))) 3 = some (.int (v3 + Int32.ofInt 1)) := zs1_ld _ _ _
  have l4_1 : zld (zs1 lv 3 (.int (v3 + Int32.ofInt 1))) 4 = some (.int v4) := x_o1 l4 rfl rfl
  generalize (zs1 lv 3 (.int (v3 + Int32.ofInt 1))) = lv1 at *
  refine r_s (fr' := (14, lv1, [])) (hp' := xW B m) (q := (.goto (-51), 3, 14, 0, .null)) rfl (fun _ => rfl) (Nat.le_refl _) ?_
  exact k14 l0_1 l1_1 l2_1 l3_1 h
def D256_70 (F : Nat) : Nat → Int32 → Int32 → Int32 → xS → Option (Int32 × xS)
  | 0, _, _, _, _ => none
  | f + 1, v1, v2, v3, m =>
    if zcmp .ge v3 (m.1 80 3) = true then
      some ((m.1 70 30), m)
    else
      (D254 F v2 v3 m).bind fun q88 =>
        if xib v3 6 = true then
          D256_70 F f v1 v2 (v3 + Int32.ofInt 1) (xu q88.2 83 (v3 : Int32).toNatClampNeg q88.1)
        else none
set_option maxRecDepth 20000 in
theorem T256_70 {B : zHp} (H : yH0 B) {e : Nat} (he : 8 ≤ e + 1) (F : Nat) : ∀ (f : Nat) {v1 : Int32} {v2 : Int32} {v3 : Int32} {lv : List (Nat × Value)} {m : xS} {x : Int32 × xS}, zld lv 0 = some (.ref 70) → zld lv 1 = some (.int v1) → zld lv 2 = some (.int v2) → zld lv 3 = some (.int v3) → D256_70 F f v1 v2 v3 m = some x → zR none e 5 (some .int) zc256 (70, lv, []) (xW B m) (some (.int x.1), xW B x.2) := by
  intro f
  induction f with
  | zero => intro v1 v2 v3 lv m x l0 l1 l2 l3 h; cases h
  | succ f ih =>
    intro v1 v2 v3 lv m x l0 l1 l2 l3 h
    unfold D256_70 at h
    refine q_li (k := 1) (i := 3) (q := (.iload_n 3, 1, 0, 0, .null)) rfl (fun _ => rfl) l3 ?_
    refine q_lr (k := 1) (i := 0) (q := (.aload_n 0, 1, 0, 0, .null)) rfl (fun _ => rfl) l0 ?_
    refine r_gr (c := 80) H (pc := 72) rfl (by decide) (by decide) ?_
    refine r_s (fr' := (76, lv, [.int 3, .ref 80, .int v3])) (hp' := xW B m) (q := (.iconst 3, 1, 0, 0, .null)) rfl (fun _ => rfl) (Nat.le_refl _) ?_
    refine q_al (n := 148) (v := (m.1 80 3)) H (pc := 76) rfl (by decide) (by decide) rfl ?_
    refine r_ifc (len := 3) (a := 98) (b := 0) (v0 := .null) (cn := .ge) (off := 21) rfl (fun c => ?_) (fun c => ?_)
    · rw [if_pos c] at h
      refine q_lr (k := 1) (i := 0) (q := (.aload_n 0, 1, 0, 0, .null)) rfl (fun _ => rfl) l0 ?_
      refine r_gi (v := (m.1 70 30)) H (pc := 99) (i := _) rfl (by decide) (by decide) rfl ?_
      obtain rfl := Option.some.inj h
      exact q_ri (q := (.ireturn, 1, 0, 0, .null)) rfl (fun _ => rfl) rfl rfl
    · rw [if_neg (by rw [c]; decide)] at h
      refine q_lr (k := 1) (i := 0) (q := (.aload_n 0, 1, 0, 0, .null)) rfl (fun _ => rfl) l0 ?_
      refine r_gr (c := 83) H (pc := 81) rfl (by decide) (by decide) ?_
      refine q_li (k := 1) (i := 3) (q := (.iload_n 3, 1, 0, 0, .null)) rfl (fun _ => rfl) l3 ?_
      refine q_lr (k := 1) (i := 0) (q := (.aload_n 0, 1, 0, 0, .null)) rfl (fun _ => rfl) l0 ?_
      refine q_li (k := 1) (i := 2) (q := (.iload_n 2, 1, 0, 0, .null)) rfl (fun _ => rfl) l2 ?_
      refine q_li (k := 1) (i := 3) (q := (.iload_n 3, 1, 0, 0, .null)) rfl (fun _ => rfl) l3 ?_
      obtain ⟨q88, h88, h⟩ := xbind h
      refine r_call (ix := 70) (as := [.int v2, .int v3]) (rest := [.int v3, .ref 83]) (rv := some (.int q88.1)) (hp' := xW B q88.2) (pc := 88) rfl xr254 rfl rfl rfl (xkd H (by decide)) (Nat.le_of_ble_eq_true rfl) (Z254 H h88 (by omega)) (Nat.le_refl _) ?_
      obtain ⟨c1, h⟩ := xif h
      refine q_as (n := 6) (s2 := (xu q88.2 83 (v3 : Int32).toNatClampNeg q88.1)) H (pc := 91) rfl (by decide) c1 rfl ?_
      refine q_inc (i := 3) (n := 1) (q := (.iinc 3 1, 3, 0, 0, .null)) rfl (fun _ => rfl) l3 (by decide) ?_
      have l0_2 : zld (zs1 lv 3 (.int (v3 + Int32.ofInt 1))) 0 = some (.ref 70) := x_o1 l0 rfl rfl
      have l1_2 : zld (zs1 lv 3 (.int (v3 + Int32.ofInt 1))) 1 = some (.int v1) := x_o1 l1 rfl rfl
      have l2_2 : zld (zs1 lv 3 (.int (v3 + Int32.ofInt 1))) 2 = some (.int v2) := x_o1 l2 rfl rfl
      have l3_2 : zld (zs1 lv 3 (.int (v3 + Int32.ofInt 1))) 3 = some (.int (v3 + Int32.ofInt 1)) := zs1_ld _ _ _
      generalize (zs1 lv 3 (.int (v3 + Int32.ofInt 1))) = lv2 at *
      refine r_s (fr' := (70, lv2, [])) (hp' := xW B (xu q88.2 83 (v3 : Int32).toNatClampNeg q88.1)) (q := (.goto (-25), 3, 70, 0, .null)) rfl (fun _ => rfl) (Nat.le_refl _) ?_
      exact ih l0_2 l1_2 l2_2 l3_2 h
def D256_14 (F : Nat) : Nat → Int32 → Int32 → Int32 → xS → Option (Int32 × xS)
  | 0, _, _, _, _ => none
  | f + 1, v1, v2, v3, m =>
    (D235 F ((m.1 80 2) + 1) (m.1 80 3) m).bind fun q29 =>
      if zcmp .ge v3 q29.1 = true then
        D256_70 F F v1 v2 0 q29.2
      else
        (D255 F v3 q29.2).bind fun q37 =>
          if zcmp .gt q37.1 (q37.2.1 70 30) = true then
            D256_62 F (D256_14 F f) v1 v3 v3 q37.1 (xu q37.2 70 30 q37.1)
          else
            D256_62 F (D256_14 F f) v1 v2 v3 q37.1 q37.2
set_option maxRecDepth 20000 in
theorem T256_14 {B : zHp} (H : yH0 B) {e : Nat} (he : 8 ≤ e + 1) (F : Nat) : ∀ (f : Nat) {v1 : Int32} {v2 : Int32} {v3 : Int32} {lv : List (Nat × Value)} {m : xS} {x : Int32 × xS}, zld lv 0 = some (.ref 70) → zld lv 1 = some (.int v1) → zld lv 2 = some (.int v2) → zld lv 3 = some (.int v3) → D256_14 F f v1 v2 v3 m = some x → zR none e 5 (some .int) zc256 (14, lv, []) (xW B m) (some (.int x.1), xW B x.2) := by
  intro f
  induction f with
  | zero => intro v1 v2 v3 lv m x l0 l1 l2 l3 h; cases h
  | succ f ih =>
    intro v1 v2 v3 lv m x l0 l1 l2 l3 h
    unfold D256_14 at h
    refine q_li (k := 1) (i := 3) (q := (.iload_n 3, 1, 0, 0, .null)) rfl (fun _ => rfl) l3 ?_
    refine q_lr (k := 1) (i := 0) (q := (.aload_n 0, 1, 0, 0, .null)) rfl (fun _ => rfl) l0 ?_
    refine r_gr (c := 80) H (pc := 16) rfl (by decide) (by decide) ?_
    refine r_s (fr' := (20, lv, [.int 2, .ref 80, .int v3])) (hp' := xW B m) (q := (.iconst 2, 1, 0, 0, .null)) rfl (fun _ => rfl) (Nat.le_refl _) ?_
    refine q_al (n := 148) (v := (m.1 80 2)) H (pc := 20) rfl (by decide) (by decide) rfl ?_
    refine r_s (fr' := (22, lv, [.int 1, .int (m.1 80 2), .int v3])) (hp' := xW B m) (q := (.iconst 1, 1, 0, 0, .null)) rfl (fun _ => rfl) (Nat.le_refl _) ?_
    refine r_s (fr' := (23, lv, [.int ((m.1 80 2) + 1), .int v3])) (hp' := xW B m) (q := (.iadd, 1, 0, 0, .null)) rfl (fun _ => rfl) (Nat.le_refl _) ?_
    refine q_lr (k := 1) (i := 0) (q := (.aload_n 0, 1, 0, 0, .null)) rfl (fun _ => rfl) l0 ?_
    refine r_gr (c := 80) H (pc := 24) rfl (by decide) (by decide) ?_
    refine r_s (fr' := (28, lv, [.int 3, .ref 80, .int ((m.1 80 2) + 1), .int v3])) (hp' := xW B m) (q := (.iconst 3, 1, 0, 0, .null)) rfl (fun _ => rfl) (Nat.le_refl _) ?_
    refine q_al (n := 148) (v := (m.1 80 3)) H (pc := 28) rfl (by decide) (by decide) rfl ?_
    obtain ⟨q29, h29, h⟩ := xbind h
    refine r_callS (as := [.int ((m.1 80 2) + 1), .int (m.1 80 3)]) (rest := [.int v3]) (rv := some (.int q29.1)) (hp' := xW B q29.2) (pc := 29) rfl xr235 rfl rfl rfl (Nat.le_of_ble_eq_true rfl) (Z235 H h29 (by omega)) (Nat.le_refl _) ?_
    refine r_ifc (len := 3) (a := 68) (b := 0) (v0 := .null) (cn := .ge) (off := 36) rfl (fun c => ?_) (fun c => ?_)
    · rw [if_pos c] at h
      refine r_s (fr' := (69, lv, [.int 0])) (hp' := xW B q29.2) (q := (.iconst 0, 1, 0, 0, .null)) rfl (fun _ => rfl) (Nat.le_refl _) ?_
      refine q_si (k := 1) (i := 3) (q := (.istore_n 3, 1, 0, 0, .null)) rfl (fun _ => rfl) (by decide) ?_
      have l0_1 : zld (zs1 lv 3 (.int 0)) 0 = some (.ref 70) := x_o1 l0 rfl rfl
      have l1_1 : zld (zs1 lv 3 (.int 0)) 1 = some (.int v1) := x_o1 l1 rfl rfl
      have l2_1 : zld (zs1 lv 3 (.int 0)) 2 = some (.int v2) := x_o1 l2 rfl rfl
      have l3_1 : zld (zs1 lv 3 (.int 0)) 3 = some (.int 0) := zs1_ld _ _ _
      generalize (zs1 lv 3 (.int 0)) = lv1 at *
      exact T256_70 H he F F l0_1 l1_1 l2_1 l3_1 h
    · rw [if_neg (by rw [c]; decide)] at h
      refine q_lr (k := 1) (i := 0) (q := (.aload_n 0, 1, 0, 0, .null)) rfl (fun _ => rfl) l0 ?_
      refine q_li (k := 1) (i := 3) (q := (.iload_n 3, 1, 0, 0, .null)) rfl (fun _ => rfl) l3 ?_
      obtain ⟨q37, h37, h⟩ := xbind h
      refine r_call (ix := 70) (as := [.int v3]) (rest := []) (rv := some (.int q37.1)) (hp' := xW B q37.2) (pc := 37) rfl xr255 rfl rfl rfl (xkd H (by decide)) (Nat.le_of_ble_eq_true rfl) (Z255 H h37 (by omega)) (Nat.le_refl _) ?_
      refine q_si (k := 2) (i := 4) (q := (.istore 4, 2, 0, 0, .null)) rfl (fun _ => rfl) (by decide) ?_
      have l0_2 : zld (zs1 lv 4 (.int q37.1)) 0 = some (.ref 70) := x_o1 l0 rfl rfl
      have l1_2 : zld (zs1 lv 4 (.int q37.1)) 1 = some (.int v1) := x_o1 l1 rfl rfl
      have l2_2 : zld (zs1 lv 4 (.int q37.1)) 2 = some (.int v2) := x_o1 l2 rfl rfl
      have l3_2 : zld (zs1 lv 4 (.int q37.1)) 3 = some (.int v3) := x_o1 l3 rfl rfl
      have l4_2 : zld (zs1 lv 4 (.int q37.1)) 4 = some (.int q37.1) := zs1_ld _ _ _
      generalize (zs1 lv 4 (.int q37.1)) = lv2 at *
      refine q_li (k := 2) (i := 4) (q := (.iload 4, 2, 0, 0, .null)) rfl (fun _ => rfl) l4_2 ?_
      refine q_lr (k := 1) (i := 0) (q := (.aload_n 0, 1, 0, 0, .null)) rfl (fun _ => rfl) l0_2 ?_
      refine r_gi (v := (q37.2.1 70 30)) H (pc := 45) (i := _) rfl (by decide) (by decide) rfl ?_
      refine r_ifc (len := 3) (a := 54) (b := 0) (v0 := .null) (cn := .gt) (off := 6) rfl (fun c => ?_) (fun c => ?_)
      · rw [if_pos c] at h
        refine q_lr (k := 1) (i := 0) (q := (.aload_n 0, 1, 0, 0, .null)) rfl (fun _ => rfl) l0_2 ?_
        refine q_li (k := 2) (i := 4) (q := (.iload 4, 2, 0, 0, .null)) rfl (fun _ => rfl) l4_2 ?_
        refine r_pi (s2 := (xu q37.2 70 30 q37.1)) H (pc := 57) rfl (by decide) rfl rfl ?_
        refine q_li (k := 1) (i := 3) (q := (.iload_n 3, 1, 0, 0, .null)) rfl (fun _ => rfl) l3_2 ?_
        refine q_si (k := 1) (i := 2) (q := (.istore_n 2, 1, 0, 0, .null)) rfl (fun _ => rfl) (by decide) ?_
        have l0_3 : zld (zs1 lv2 2 (.int v3)) 0 = some (.ref 70) := x_o1 l0_2 rfl rfl
        have l1_3 : zld (zs1 lv2 2 (.int v3)) 1 = some (.int v1) := x_o1 l1_2 rfl rfl
        have l2_3 : zld (zs1 lv2 2 (.int v3)) 2 = some (.int v3) := zs1_ld _ _ _
        have l3_3 : zld (zs1 lv2 2 (.int v3)) 3 = some (.int v3) := x_o1 l3_2 rfl rfl
        have l4_3 : zld (zs1 lv2 2 (.int v3)) 4 = some (.int q37.1) := x_o1 l4_2 rfl rfl
        generalize (zs1 lv2 2 (.int v3)) = lv3 at *
        exact T256_62 H he F _ ih l0_3 l1_3 l2_3 l3_3 l4_3 h
      · rw [if_neg (by rw [c]; decide)] at h
        refine r_s (fr' := (62, lv2, [])) (hp' := xW B q37.2) (q := (.goto 11, 3, 62, 0, .null)) rfl (fun _ => rfl) (Nat.le_refl _) ?_
        exact T256_62 H he F _ ih l0_2 l1_2 l2_2 l3_2 l4_2 h
def D256 (F : Nat) (v1 : Int32) (m : xS) : Option (Int32 × xS) :=
  (D253 F v1 m).bind fun q2 =>
    D256_14 F F v1 0 0 (xu q2.2 70 30 (-1))
set_option maxRecDepth 20000 in
theorem T256 {B : zHp} (H : yH0 B) {e : Nat} (he : 8 ≤ e + 1) (F : Nat) {v1 : Int32} {lv : List (Nat × Value)} {m : xS} {x : Int32 × xS} (l0 : zld lv 0 = some (.ref 70)) (l1 : zld lv 1 = some (.int v1)) (h : D256 F v1 m = some x) : zR none e 5 (some .int) zc256 (0, lv, []) (xW B m) (some (.int x.1), xW B x.2) := by
  unfold D256 at h
  refine q_lr (k := 1) (i := 0) (q := (.aload_n 0, 1, 0, 0, .null)) rfl (fun _ => rfl) l0 ?_
  refine q_li (k := 1) (i := 1) (q := (.iload_n 1, 1, 0, 0, .null)) rfl (fun _ => rfl) l1 ?_
  obtain ⟨q2, h2, h⟩ := xbind h
  refine r_call (ix := 70) (as := [.int v1]) (rest := []) (rv := none) (hp' := xW B q2.2) (pc := 2) rfl xr253 rfl rfl rfl (xkd H (by decide)) (Nat.le_of_ble_eq_true rfl) (Z253 H h2 (by omega)) (Nat.le_refl _) ?_
  refine q_lr (k := 1) (i := 0) (q := (.aload_n 0, 1, 0, 0, .null)) rfl (fun _ => rfl) l0 ?_
  refine r_s (fr' := (7, lv, [.int (-1), .ref 70])) (hp' := xW B q2.2) (q := (.iconst (-1), 1, 0, 0, .null)) rfl (fun _ => rfl) (Nat.le_refl _) ?_
  refine r_pi (s2 := (xu q2.2 70 30 (-1))) H (pc := 7) rfl (by decide) rfl rfl ?_
  refine r_s (fr' := (11, lv, [.int 0])) (hp' := xW B (xu q2.2 70 30 (-1))) (q := (.iconst 0, 1, 0, 0, .null)) rfl (fun _ => rfl) (Nat.le_refl _) ?_
  refine q_si (k := 1) (i := 2) (q := (.istore_n 2, 1, 0, 0, .null)) rfl (fun _ => rfl) (by decide) ?_
  have l0_1 : zld (zs1 lv 2 (.int 0)) 0 = some (.ref 70) := x_o1 l0 rfl rfl
  have l1_1 : zld (zs1 lv 2 (.int 0)) 1 = some (.int v1) := x_o1 l1 rfl rfl
  have l2_1 : zld (zs1 lv 2 (.int 0)) 2 = some (.int 0) := zs1_ld _ _ _
  generalize (zs1 lv 2 (.int 0)) = lv1 at *
  refine r_s (fr' := (13, lv1, [.int 0])) (hp' := xW B (xu q2.2 70 30 (-1))) (q := (.iconst 0, 1, 0, 0, .null)) rfl (fun _ => rfl) (Nat.le_refl _) ?_
  refine q_si (k := 1) (i := 3) (q := (.istore_n 3, 1, 0, 0, .null)) rfl (fun _ => rfl) (by decide) ?_
  have l0_2 : zld (zs1 lv1 3 (.int 0)) 0 = some (.ref 70) := x_o1 l0_1 rfl rfl
  have l1_2 : zld (zs1 lv1 3 (.int 0)) 1 = some (.int v1) := x_o1 l1_1 rfl rfl
  have l2_2 : zld (zs1 lv1 3 (.int 0)) 2 = some (.int 0) := x_o1 l2_1 rfl rfl
  have l3_2 : zld (zs1 lv1 3 (.int 0)) 3 = some (.int 0) := zs1_ld _ _ _
  generalize (zs1 lv1 3 (.int 0)) = lv2 at *
  exact T256_14 H he F F l0_2 l1_2 l2_2 l3_2 h
set_option maxRecDepth 20000 in
theorem Z256 {B : zHp} (H : yH0 B) {F : Nat} {a1 : Int32} {m : xS} {x : Int32 × xS} (h : D256 F a1 m = some x) {d : Nat} (hd : 8 ≤ d) : zCan d 256 [.ref 70, .int a1] (xW B m) (some (.int x.1), xW B x.2) := by
  obtain ⟨e, rfl⟩ : ∃ e, d = e + 1 := ⟨d - 1, by omega⟩
  refine zCan_body (nL := 5) (rt := (some .int)) (cd := zc256) (xg256) ⟨Nat.le_of_ble_eq_true rfl, by decide⟩ (Nat.le_refl _) ?_
  exact T256 H hd F rfl rfl h
/-- LentToolsModel.match -/
def D257_19 (F : Nat) (v1 : Int32) (m : xS) : Option (Int32 × xS) :=
  some ((-3), m)
set_option maxRecDepth 20000 in
theorem T257_19 {B : zHp} (H : yH0 B) {e : Nat} (he : 9 ≤ e + 1) (F : Nat) {v1 : Int32} {lv : List (Nat × Value)} {m : xS} {x : Int32 × xS} (l0 : zld lv 0 = some (.ref 70)) (l1 : zld lv 1 = some (.int v1)) (h : D257_19 F v1 m = some x) : zR none e 2 (some .int) zc257 (19, lv, []) (xW B m) (some (.int x.1), xW B x.2) := by
  unfold D257_19 at h
  refine r_s (fr' := (21, lv, [.int (-3)])) (hp' := xW B m) (q := (.bipush (-3), 2, 0, 0, .null)) rfl (fun _ => rfl) (Nat.le_refl _) ?_
  obtain rfl := Option.some.inj h
  exact q_ri (q := (.ireturn, 1, 0, 0, .null)) rfl (fun _ => rfl) rfl rfl
def D257 (F : Nat) (v1 : Int32) (m : xS) : Option (Int32 × xS) :=
  (D204 F m).bind fun q1 =>
    if zcmp .eq q1.1 0 = true then
      D257_19 F v1 q1.2
    else
      (D158 F (v1 : Int32).toInt64 0 6 q1.2).bind fun q13 =>
        if zcmp .ne q13.1 0 = true then
          (D256 F (-1) q13.2).bind fun q24 =>
            if zcmp .ne v1 0 = true then
              if zcmp .le v1 (q24.2.1 80 3) = true then
                if xib (v1 - 1) 6 = true then
                  some ((q24.2.1 83 ((v1 - 1) : Int32).toNatClampNeg), q24.2)
                else none
              else
                some ((-2), q24.2)
            else
              some ((q24.2.1 70 30), q24.2)
        else
          D257_19 F v1 q13.2
set_option maxRecDepth 20000 in
theorem T257 {B : zHp} (H : yH0 B) {e : Nat} (he : 9 ≤ e + 1) (F : Nat) {v1 : Int32} {lv : List (Nat × Value)} {m : xS} {x : Int32 × xS} (l0 : zld lv 0 = some (.ref 70)) (l1 : zld lv 1 = some (.int v1)) (h : D257 F v1 m = some x) : zR none e 2 (some .int) zc257 (0, lv, []) (xW B m) (some (.int x.1), xW B x.2) := by
  unfold D257 at h
  refine q_lr (k := 1) (i := 0) (q := (.aload_n 0, 1, 0, 0, .null)) rfl (fun _ => rfl) l0 ?_
  obtain ⟨q1, h1, h⟩ := xbind h
  refine r_call (ix := 70) (as := []) (rest := []) (rv := some (.int q1.1)) (hp' := xW B q1.2) (pc := 1) rfl xr204 rfl rfl rfl (xkd H (by decide)) (Nat.le_of_ble_eq_true rfl) (Z204 H h1 (by omega)) (Nat.le_refl _) ?_
  refine r_if (len := 3) (a := 19) (b := 0) (v0 := .null) (cn := .eq) (off := 15) rfl (fun c => ?_) (fun c => ?_)
  · rw [if_pos c] at h
    exact T257_19 H he F l0 l1 h
  · rw [if_neg (by rw [c]; decide)] at h
    refine q_li (k := 1) (i := 1) (q := (.iload_n 1, 1, 0, 0, .null)) rfl (fun _ => rfl) l1 ?_
    refine r_s (fr' := (9, lv, [.long (v1 : Int32).toInt64])) (hp' := xW B q1.2) (q := (.i2l, 1, 0, 0, .null)) rfl (fun _ => rfl) (Nat.le_refl _) ?_
    refine r_s (fr' := (10, lv, [.long 0, .long (v1 : Int32).toInt64])) (hp' := xW B q1.2) (q := (.lconst 0, 1, 0, 0, .null)) rfl (fun _ => rfl) (Nat.le_refl _) ?_
    refine r_s (fr' := (13, lv, [.long 6, .long 0, .long (v1 : Int32).toInt64])) (hp' := xW B q1.2) (q := (.ldc2_w 413, 3, 0, 0, .long 6)) rfl (fun _ => rfl) (Nat.le_refl _) ?_
    obtain ⟨q13, h13, h⟩ := xbind h
    refine r_callS (as := [.long (v1 : Int32).toInt64, .long 0, .long 6]) (rest := []) (rv := some (.int q13.1)) (hp' := xW B q13.2) (pc := 13) rfl xr158 rfl rfl rfl (Nat.le_of_ble_eq_true rfl) (Z158 H h13 (by omega)) (Nat.le_refl _) ?_
    refine r_if (len := 3) (a := 22) (b := 0) (v0 := .null) (cn := .ne) (off := 6) rfl (fun c => ?_) (fun c => ?_)
    · rw [if_pos c] at h
      refine q_lr (k := 1) (i := 0) (q := (.aload_n 0, 1, 0, 0, .null)) rfl (fun _ => rfl) l0 ?_
      refine r_s (fr' := (24, lv, [.int (-1), .ref 70])) (hp' := xW B q13.2) (q := (.iconst (-1), 1, 0, 0, .null)) rfl (fun _ => rfl) (Nat.le_refl _) ?_
      obtain ⟨q24, h24, h⟩ := xbind h
      refine r_call (ix := 70) (as := [.int (-1)]) (rest := []) (rv := some (.int q24.1)) (hp' := xW B q24.2) (pc := 24) rfl xr256 rfl rfl rfl (xkd H (by decide)) (Nat.le_of_ble_eq_true rfl) (Z256 H h24 (by omega)) (Nat.le_refl _) ?_
      refine r_s (fr' := (28, lv, [])) (hp' := xW B q24.2) (q := (.pop, 1, 0, 0, .null)) rfl (fun _ => rfl) (Nat.le_refl _) ?_
      refine q_li (k := 1) (i := 1) (q := (.iload_n 1, 1, 0, 0, .null)) rfl (fun _ => rfl) l1 ?_
      refine r_if (len := 3) (a := 39) (b := 0) (v0 := .null) (cn := .ne) (off := 10) rfl (fun c => ?_) (fun c => ?_)
      · rw [if_pos c] at h
        refine q_li (k := 1) (i := 1) (q := (.iload_n 1, 1, 0, 0, .null)) rfl (fun _ => rfl) l1 ?_
        refine q_lr (k := 1) (i := 0) (q := (.aload_n 0, 1, 0, 0, .null)) rfl (fun _ => rfl) l0 ?_
        refine r_gr (c := 80) H (pc := 41) rfl (by decide) (by decide) ?_
        refine r_s (fr' := (45, lv, [.int 3, .ref 80, .int v1])) (hp' := xW B q24.2) (q := (.iconst 3, 1, 0, 0, .null)) rfl (fun _ => rfl) (Nat.le_refl _) ?_
        refine q_al (n := 148) (v := (q24.2.1 80 3)) H (pc := 45) rfl (by decide) (by decide) rfl ?_
        refine r_ifc (len := 3) (a := 54) (b := 0) (v0 := .null) (cn := .le) (off := 8) rfl (fun c => ?_) (fun c => ?_)
        · rw [if_pos c] at h
          refine q_lr (k := 1) (i := 0) (q := (.aload_n 0, 1, 0, 0, .null)) rfl (fun _ => rfl) l0 ?_
          refine r_gr (c := 83) H (pc := 55) rfl (by decide) (by decide) ?_
          refine q_li (k := 1) (i := 1) (q := (.iload_n 1, 1, 0, 0, .null)) rfl (fun _ => rfl) l1 ?_
          refine r_s (fr' := (60, lv, [.int 1, .int v1, .ref 83])) (hp' := xW B q24.2) (q := (.iconst 1, 1, 0, 0, .null)) rfl (fun _ => rfl) (Nat.le_refl _) ?_
          refine r_s (fr' := (61, lv, [.int (v1 - 1), .ref 83])) (hp' := xW B q24.2) (q := (.isub, 1, 0, 0, .null)) rfl (fun _ => rfl) (Nat.le_refl _) ?_
          obtain ⟨c1, h⟩ := xif h
          refine q_al (n := 6) (v := (q24.2.1 83 ((v1 - 1) : Int32).toNatClampNeg)) H (pc := 61) rfl (by decide) c1 rfl ?_
          obtain rfl := Option.some.inj h
          exact q_ri (q := (.ireturn, 1, 0, 0, .null)) rfl (fun _ => rfl) rfl rfl
        · rw [if_neg (by rw [c]; decide)] at h
          refine r_s (fr' := (51, lv, [.int (-2)])) (hp' := xW B q24.2) (q := (.bipush (-2), 2, 0, 0, .null)) rfl (fun _ => rfl) (Nat.le_refl _) ?_
          refine r_s (fr' := (62, lv, [.int (-2)])) (hp' := xW B q24.2) (q := (.goto 11, 3, 62, 0, .null)) rfl (fun _ => rfl) (Nat.le_refl _) ?_
          obtain rfl := Option.some.inj h
          exact q_ri (q := (.ireturn, 1, 0, 0, .null)) rfl (fun _ => rfl) rfl rfl
      · rw [if_neg (by rw [c]; decide)] at h
        refine q_lr (k := 1) (i := 0) (q := (.aload_n 0, 1, 0, 0, .null)) rfl (fun _ => rfl) l0 ?_
        refine r_gi (v := (q24.2.1 70 30)) H (pc := 33) (i := _) rfl (by decide) (by decide) rfl ?_
        refine r_s (fr' := (62, lv, [.int (q24.2.1 70 30)])) (hp' := xW B q24.2) (q := (.goto 26, 3, 62, 0, .null)) rfl (fun _ => rfl) (Nat.le_refl _) ?_
        obtain rfl := Option.some.inj h
        exact q_ri (q := (.ireturn, 1, 0, 0, .null)) rfl (fun _ => rfl) rfl rfl
    · rw [if_neg (by rw [c]; decide)] at h
      exact T257_19 H he F l0 l1 h
set_option maxRecDepth 20000 in
theorem Z257 {B : zHp} (H : yH0 B) {F : Nat} {a1 : Int32} {m : xS} {x : Int32 × xS} (h : D257 F a1 m = some x) {d : Nat} (hd : 9 ≤ d) : zCan d 257 [.ref 70, .int a1] (xW B m) (some (.int x.1), xW B x.2) := by
  obtain ⟨e, rfl⟩ : ∃ e, d = e + 1 := ⟨d - 1, by omega⟩
  refine zCan_body (nL := 2) (rt := (some .int)) (cd := zc257) (xg257) ⟨Nat.le_of_ble_eq_true rfl, by decide⟩ (Nat.le_refl _) ?_
  exact T257 H hd F rfl rfl h
/-- LentToolsModel.worth -/
def D258 (F : Nat) (v1 : Int32) (m : xS) : Option (Int32 × xS) :=
  (D206 F v1 m).bind fun q2 =>
    if zcmp .eq q2.1 0 = true then
      some ((-1), q2.2)
    else
      (D256 F (-1) q2.2).bind fun q10 =>
        (D256 F v1 q10.2).bind fun q15 =>
          some ((q10.1 - q15.1), q15.2)
set_option maxRecDepth 20000 in
theorem T258 {B : zHp} (H : yH0 B) {e : Nat} (he : 9 ≤ e + 1) (F : Nat) {v1 : Int32} {lv : List (Nat × Value)} {m : xS} {x : Int32 × xS} (l0 : zld lv 0 = some (.ref 70)) (l1 : zld lv 1 = some (.int v1)) (h : D258 F v1 m = some x) : zR none e 2 (some .int) zc258 (0, lv, []) (xW B m) (some (.int x.1), xW B x.2) := by
  unfold D258 at h
  refine q_lr (k := 1) (i := 0) (q := (.aload_n 0, 1, 0, 0, .null)) rfl (fun _ => rfl) l0 ?_
  refine q_li (k := 1) (i := 1) (q := (.iload_n 1, 1, 0, 0, .null)) rfl (fun _ => rfl) l1 ?_
  obtain ⟨q2, h2, h⟩ := xbind h
  refine r_call (ix := 70) (as := [.int v1]) (rest := []) (rv := some (.int q2.1)) (hp' := xW B q2.2) (pc := 2) rfl xr206 rfl rfl rfl (xkd H (by decide)) (Nat.le_of_ble_eq_true rfl) (Z206 H h2 (by omega)) (Nat.le_refl _) ?_
  refine r_if (len := 3) (a := 22) (b := 0) (v0 := .null) (cn := .eq) (off := 17) rfl (fun c => ?_) (fun c => ?_)
  · rw [if_pos c] at h
    refine r_s (fr' := (23, lv, [.int (-1)])) (hp' := xW B q2.2) (q := (.iconst (-1), 1, 0, 0, .null)) rfl (fun _ => rfl) (Nat.le_refl _) ?_
    obtain rfl := Option.some.inj h
    exact q_ri (q := (.ireturn, 1, 0, 0, .null)) rfl (fun _ => rfl) rfl rfl
  · rw [if_neg (by rw [c]; decide)] at h
    refine q_lr (k := 1) (i := 0) (q := (.aload_n 0, 1, 0, 0, .null)) rfl (fun _ => rfl) l0 ?_
    refine r_s (fr' := (10, lv, [.int (-1), .ref 70])) (hp' := xW B q2.2) (q := (.iconst (-1), 1, 0, 0, .null)) rfl (fun _ => rfl) (Nat.le_refl _) ?_
    obtain ⟨q10, h10, h⟩ := xbind h
    refine r_call (ix := 70) (as := [.int (-1)]) (rest := []) (rv := some (.int q10.1)) (hp' := xW B q10.2) (pc := 10) rfl xr256 rfl rfl rfl (xkd H (by decide)) (Nat.le_of_ble_eq_true rfl) (Z256 H h10 (by omega)) (Nat.le_refl _) ?_
    refine q_lr (k := 1) (i := 0) (q := (.aload_n 0, 1, 0, 0, .null)) rfl (fun _ => rfl) l0 ?_
    refine q_li (k := 1) (i := 1) (q := (.iload_n 1, 1, 0, 0, .null)) rfl (fun _ => rfl) l1 ?_
    obtain ⟨q15, h15, h⟩ := xbind h
    refine r_call (ix := 70) (as := [.int v1]) (rest := [.int q10.1]) (rv := some (.int q15.1)) (hp' := xW B q15.2) (pc := 15) rfl xr256 rfl rfl rfl (xkd H (by decide)) (Nat.le_of_ble_eq_true rfl) (Z256 H h15 (by omega)) (Nat.le_refl _) ?_
    refine r_s (fr' := (19, lv, [.int (q10.1 - q15.1)])) (hp' := xW B q15.2) (q := (.isub, 1, 0, 0, .null)) rfl (fun _ => rfl) (Nat.le_refl _) ?_
    refine r_s (fr' := (23, lv, [.int (q10.1 - q15.1)])) (hp' := xW B q15.2) (q := (.goto 4, 3, 23, 0, .null)) rfl (fun _ => rfl) (Nat.le_refl _) ?_
    obtain rfl := Option.some.inj h
    exact q_ri (q := (.ireturn, 1, 0, 0, .null)) rfl (fun _ => rfl) rfl rfl
set_option maxRecDepth 20000 in
theorem Z258 {B : zHp} (H : yH0 B) {F : Nat} {a1 : Int32} {m : xS} {x : Int32 × xS} (h : D258 F a1 m = some x) {d : Nat} (hd : 9 ≤ d) : zCan d 258 [.ref 70, .int a1] (xW B m) (some (.int x.1), xW B x.2) := by
  obtain ⟨e, rfl⟩ : ∃ e, d = e + 1 := ⟨d - 1, by omega⟩
  refine zCan_body (nL := 2) (rt := (some .int)) (cd := zc258) (xg258) ⟨Nat.le_of_ble_eq_true rfl, by decide⟩ (Nat.le_refl _) ?_
  exact T258 H hd F rfl rfl h
/-- LentToolsModel.owner -/
def D261_18 (F : Nat) (v1 : Int32) (v2 : Int32) (m : xS) : Option (Int32 × xS) :=
  some ((-1), m)
set_option maxRecDepth 20000 in
theorem T261_18 {B : zHp} (H : yH0 B) {e : Nat} (he : 9 ≤ e + 1) (F : Nat) {v1 : Int32} {v2 : Int32} {lv : List (Nat × Value)} {m : xS} {x : Int32 × xS} (l0 : zld lv 0 = some (.ref 70)) (l1 : zld lv 1 = some (.int v1)) (l2 : zld lv 2 = some (.int v2)) (h : D261_18 F v1 v2 m = some x) : zR none e 7 (some .int) zc261 (18, lv, []) (xW B m) (some (.int x.1), xW B x.2) := by
  unfold D261_18 at h
  refine r_s (fr' := (19, lv, [.int (-1)])) (hp' := xW B m) (q := (.iconst (-1), 1, 0, 0, .null)) rfl (fun _ => rfl) (Nat.le_refl _) ?_
  obtain rfl := Option.some.inj h
  exact q_ri (q := (.ireturn, 1, 0, 0, .null)) rfl (fun _ => rfl) rfl rfl
def D261_101 (F : Nat) (g37 : Int32 → Int32 → Int32 → Int32 → Int32 → xS → Option (Int32 × xS)) (v1 : Int32) (v2 : Int32) (v3 : Int32) (v4 : Int32) (v5 : Int32) (m : xS) : Option (Int32 × xS) :=
  g37 v1 v2 v3 v4 (v5 + Int32.ofInt 1) m
set_option maxRecDepth 20000 in
theorem T261_101 {B : zHp} (H : yH0 B) {e : Nat} (he : 9 ≤ e + 1) (F : Nat) (g37 : Int32 → Int32 → Int32 → Int32 → Int32 → xS → Option (Int32 × xS)) (k37 : ∀ {v1 : Int32} {v2 : Int32} {v3 : Int32} {v4 : Int32} {v5 : Int32} {lv : List (Nat × Value)} {m : xS} {x : Int32 × xS}, zld lv 0 = some (.ref 70) → zld lv 1 = some (.int v1) → zld lv 2 = some (.int v2) → zld lv 3 = some (.int v3) → zld lv 4 = some (.int v4) → zld lv 5 = some (.int v5) → g37 v1 v2 v3 v4 v5 m = some x → zR none e 7 (some .int) zc261 (37, lv, []) (xW B m) (some (.int x.1), xW B x.2)) {v1 : Int32} {v2 : Int32} {v3 : Int32} {v4 : Int32} {v5 : Int32} {lv : List (Nat × Value)} {m : xS} {x : Int32 × xS} (l0 : zld lv 0 = some (.ref 70)) (l1 : zld lv 1 = some (.int v1)) (l2 : zld lv 2 = some (.int v2)) (l3 : zld lv 3 = some (.int v3)) (l4 : zld lv 4 = some (.int v4)) (l5 : zld lv 5 = some (.int v5)) (h : D261_101 F g37 v1 v2 v3 v4 v5 m = some x) : zR none e 7 (some .int) zc261 (101, lv, []) (xW B m) (some (.int x.1), xW B x.2) := by
  unfold D261_101 at h
  refine q_inc (i := 5) (n := 1) (q := (.iinc 5 1, 3, 0, 0, .null)) rfl (fun _ => rfl) l5 (by decide) ?_
  have l0_1 : zld (zs1 lv 5 (.int (v5 + Int32.ofInt 1))) 0 = some (.ref 70) := x_o1 l0 rfl rfl
  have l1_1 : zld (zs1 lv 5 (.int (v5 + Int32.ofInt 1))) 1 = some (.int v1) := x_o1 l1 rfl rfl
  have l2_1 : zld (zs1 lv 5 (.int (v5 + Int32.ofInt 1))) 2 = some (.int v2) := x_o1 l2 rfl rfl
  have l3_1 : zld (zs1 lv 5 (.int (v5 + Int32.ofInt 1))) 3 = some (.int v3) := x_o1 l3 rfl rfl
  have l4_1 : zld (zs1 lv 5 (.int (v5 + Int32.ofInt 1))) 4 = some (.int v4) := x_o1 l4 rfl rfl
  have l5_1 : zld (zs1 lv 5 (.int (v5 + Int32.ofInt 1))) 5 = some (.int (v5 + Int32.ofInt 1)) := zs1_ld _ _ _
  generalize (zs1 lv 5 (.int (v5 + Int32.ofInt 1))) = lv1 at *
  refine r_s (fr' := (37, lv1, [])) (hp' := xW B m) (q := (.goto (-67), 3, 37, 0, .null)) rfl (fun _ => rfl) (Nat.le_refl _) ?_
  exact k37 l0_1 l1_1 l2_1 l3_1 l4_1 l5_1 h
def D261_37 (F : Nat) : Nat → Int32 → Int32 → Int32 → Int32 → Int32 → xS → Option (Int32 × xS)
  | 0, _, _, _, _, _, _ => none
  | f + 1, v1, v2, v3, v4, v5, m =>
    if zcmp .ge v5 (m.1 80 0) = true then
      if zcmp .ne v2 0 = true then
        some (v4, m)
      else
        some (v3, m)
    else
      (D208 F v1 0 m).bind fun q53 =>
        if zcmp .ne v5 q53.1 = true then
          (D259 F q53.2).bind fun q63 =>
            (D231 F v1 v5 q63.2).bind fun q70 =>
              (D256 F (-1) q70.2).bind fun q75 =>
                (D260 F q75.2).bind fun q81 =>
                  if zcmp .gt q75.1 v4 = true then
                    D261_101 F (D261_37 F f) v1 v2 v5 q75.1 v5 q81.2
                  else
                    D261_101 F (D261_37 F f) v1 v2 v3 v4 v5 q81.2
        else
          D261_101 F (D261_37 F f) v1 v2 v3 v4 v5 q53.2
set_option maxRecDepth 20000 in
theorem T261_37 {B : zHp} (H : yH0 B) {e : Nat} (he : 9 ≤ e + 1) (F : Nat) : ∀ (f : Nat) {v1 : Int32} {v2 : Int32} {v3 : Int32} {v4 : Int32} {v5 : Int32} {lv : List (Nat × Value)} {m : xS} {x : Int32 × xS}, zld lv 0 = some (.ref 70) → zld lv 1 = some (.int v1) → zld lv 2 = some (.int v2) → zld lv 3 = some (.int v3) → zld lv 4 = some (.int v4) → zld lv 5 = some (.int v5) → D261_37 F f v1 v2 v3 v4 v5 m = some x → zR none e 7 (some .int) zc261 (37, lv, []) (xW B m) (some (.int x.1), xW B x.2) := by
  intro f
  induction f with
  | zero => intro v1 v2 v3 v4 v5 lv m x l0 l1 l2 l3 l4 l5 h; cases h
  | succ f ih =>
    intro v1 v2 v3 v4 v5 lv m x l0 l1 l2 l3 l4 l5 h
    unfold D261_37 at h
    refine q_li (k := 2) (i := 5) (q := (.iload 5, 2, 0, 0, .null)) rfl (fun _ => rfl) l5 ?_
    refine q_lr (k := 1) (i := 0) (q := (.aload_n 0, 1, 0, 0, .null)) rfl (fun _ => rfl) l0 ?_
    refine r_gr (c := 80) H (pc := 40) rfl (by decide) (by decide) ?_
    refine r_s (fr' := (44, lv, [.int 0, .ref 80, .int v5])) (hp' := xW B m) (q := (.iconst 0, 1, 0, 0, .null)) rfl (fun _ => rfl) (Nat.le_refl _) ?_
    refine q_al (n := 148) (v := (m.1 80 0)) H (pc := 44) rfl (by decide) (by decide) rfl ?_
    refine r_ifc (len := 3) (a := 107) (b := 0) (v0 := .null) (cn := .ge) (off := 62) rfl (fun c => ?_) (fun c => ?_)
    · rw [if_pos c] at h
      refine q_li (k := 1) (i := 2) (q := (.iload_n 2, 1, 0, 0, .null)) rfl (fun _ => rfl) l2 ?_
      refine r_if (len := 3) (a := 115) (b := 0) (v0 := .null) (cn := .ne) (off := 7) rfl (fun c => ?_) (fun c => ?_)
      · rw [if_pos c] at h
        refine q_li (k := 2) (i := 4) (q := (.iload 4, 2, 0, 0, .null)) rfl (fun _ => rfl) l4 ?_
        obtain rfl := Option.some.inj h
        exact q_ri (q := (.ireturn, 1, 0, 0, .null)) rfl (fun _ => rfl) rfl rfl
      · rw [if_neg (by rw [c]; decide)] at h
        refine q_li (k := 1) (i := 3) (q := (.iload_n 3, 1, 0, 0, .null)) rfl (fun _ => rfl) l3 ?_
        refine r_s (fr' := (117, lv, [.int v3])) (hp' := xW B m) (q := (.goto 5, 3, 117, 0, .null)) rfl (fun _ => rfl) (Nat.le_refl _) ?_
        obtain rfl := Option.some.inj h
        exact q_ri (q := (.ireturn, 1, 0, 0, .null)) rfl (fun _ => rfl) rfl rfl
    · rw [if_neg (by rw [c]; decide)] at h
      refine q_li (k := 2) (i := 5) (q := (.iload 5, 2, 0, 0, .null)) rfl (fun _ => rfl) l5 ?_
      refine q_lr (k := 1) (i := 0) (q := (.aload_n 0, 1, 0, 0, .null)) rfl (fun _ => rfl) l0 ?_
      refine q_li (k := 1) (i := 1) (q := (.iload_n 1, 1, 0, 0, .null)) rfl (fun _ => rfl) l1 ?_
      refine r_s (fr' := (53, lv, [.int 0, .int v1, .ref 70, .int v5])) (hp' := xW B m) (q := (.iconst 0, 1, 0, 0, .null)) rfl (fun _ => rfl) (Nat.le_refl _) ?_
      obtain ⟨q53, h53, h⟩ := xbind h
      refine r_call (ix := 70) (as := [.int v1, .int 0]) (rest := [.int v5]) (rv := some (.int q53.1)) (hp' := xW B q53.2) (pc := 53) rfl xr208 rfl rfl rfl (xkd H (by decide)) (Nat.le_of_ble_eq_true rfl) (Z208 H h53 (by omega)) (Nat.le_refl _) ?_
      refine r_ifc (len := 3) (a := 62) (b := 0) (v0 := .null) (cn := .ne) (off := 6) rfl (fun c => ?_) (fun c => ?_)
      · rw [if_pos c] at h
        refine q_lr (k := 1) (i := 0) (q := (.aload_n 0, 1, 0, 0, .null)) rfl (fun _ => rfl) l0 ?_
        obtain ⟨q63, h63, h⟩ := xbind h
        refine r_call (ix := 70) (as := []) (rest := []) (rv := none) (hp' := xW B q63.2) (pc := 63) rfl xr259 rfl rfl rfl (xkd H (by decide)) (Nat.le_of_ble_eq_true rfl) (Z259 H h63 (by omega)) (Nat.le_refl _) ?_
        refine q_lr (k := 1) (i := 0) (q := (.aload_n 0, 1, 0, 0, .null)) rfl (fun _ => rfl) l0 ?_
        refine q_li (k := 1) (i := 1) (q := (.iload_n 1, 1, 0, 0, .null)) rfl (fun _ => rfl) l1 ?_
        refine q_li (k := 2) (i := 5) (q := (.iload 5, 2, 0, 0, .null)) rfl (fun _ => rfl) l5 ?_
        obtain ⟨q70, h70, h⟩ := xbind h
        refine r_call (ix := 70) (as := [.int v1, .int v5]) (rest := []) (rv := none) (hp' := xW B q70.2) (pc := 70) rfl xr231 rfl rfl rfl (xkd H (by decide)) (Nat.le_of_ble_eq_true rfl) (Z231 H h70 (by omega)) (Nat.le_refl _) ?_
        refine q_lr (k := 1) (i := 0) (q := (.aload_n 0, 1, 0, 0, .null)) rfl (fun _ => rfl) l0 ?_
        refine r_s (fr' := (75, lv, [.int (-1), .ref 70])) (hp' := xW B q70.2) (q := (.iconst (-1), 1, 0, 0, .null)) rfl (fun _ => rfl) (Nat.le_refl _) ?_
        obtain ⟨q75, h75, h⟩ := xbind h
        refine r_call (ix := 70) (as := [.int (-1)]) (rest := []) (rv := some (.int q75.1)) (hp' := xW B q75.2) (pc := 75) rfl xr256 rfl rfl rfl (xkd H (by decide)) (Nat.le_of_ble_eq_true rfl) (Z256 H h75 (by omega)) (Nat.le_refl _) ?_
        refine q_si (k := 2) (i := 6) (q := (.istore 6, 2, 0, 0, .null)) rfl (fun _ => rfl) (by decide) ?_
        have l0_1 : zld (zs1 lv 6 (.int q75.1)) 0 = some (.ref 70) := x_o1 l0 rfl rfl
        have l1_1 : zld (zs1 lv 6 (.int q75.1)) 1 = some (.int v1) := x_o1 l1 rfl rfl
        have l2_1 : zld (zs1 lv 6 (.int q75.1)) 2 = some (.int v2) := x_o1 l2 rfl rfl
        have l3_1 : zld (zs1 lv 6 (.int q75.1)) 3 = some (.int v3) := x_o1 l3 rfl rfl
        have l4_1 : zld (zs1 lv 6 (.int q75.1)) 4 = some (.int v4) := x_o1 l4 rfl rfl
        have l5_1 : zld (zs1 lv 6 (.int q75.1)) 5 = some (.int v5) := x_o1 l5 rfl rfl
        have l6_1 : zld (zs1 lv 6 (.int q75.1)) 6 = some (.int q75.1) := zs1_ld _ _ _
        generalize (zs1 lv 6 (.int q75.1)) = lv1 at *
        refine q_lr (k := 1) (i := 0) (q := (.aload_n 0, 1, 0, 0, .null)) rfl (fun _ => rfl) l0_1 ?_
        obtain ⟨q81, h81, h⟩ := xbind h
        refine r_call (ix := 70) (as := []) (rest := []) (rv := none) (hp' := xW B q81.2) (pc := 81) rfl xr260 rfl rfl rfl (xkd H (by decide)) (Nat.le_of_ble_eq_true rfl) (Z260 H h81 (by omega)) (Nat.le_refl _) ?_
        refine q_li (k := 2) (i := 6) (q := (.iload 6, 2, 0, 0, .null)) rfl (fun _ => rfl) l6_1 ?_
        refine q_li (k := 2) (i := 4) (q := (.iload 4, 2, 0, 0, .null)) rfl (fun _ => rfl) l4_1 ?_
        refine r_ifc (len := 3) (a := 94) (b := 0) (v0 := .null) (cn := .gt) (off := 6) rfl (fun c => ?_) (fun c => ?_)
        · rw [if_pos c] at h
          refine q_li (k := 2) (i := 5) (q := (.iload 5, 2, 0, 0, .null)) rfl (fun _ => rfl) l5_1 ?_
          refine q_si (k := 1) (i := 3) (q := (.istore_n 3, 1, 0, 0, .null)) rfl (fun _ => rfl) (by decide) ?_
          have l0_2 : zld (zs1 lv1 3 (.int v5)) 0 = some (.ref 70) := x_o1 l0_1 rfl rfl
          have l1_2 : zld (zs1 lv1 3 (.int v5)) 1 = some (.int v1) := x_o1 l1_1 rfl rfl
          have l2_2 : zld (zs1 lv1 3 (.int v5)) 2 = some (.int v2) := x_o1 l2_1 rfl rfl
          have l3_2 : zld (zs1 lv1 3 (.int v5)) 3 = some (.int v5) := zs1_ld _ _ _
          have l4_2 : zld (zs1 lv1 3 (.int v5)) 4 = some (.int v4) := x_o1 l4_1 rfl rfl
          have l5_2 : zld (zs1 lv1 3 (.int v5)) 5 = some (.int v5) := x_o1 l5_1 rfl rfl
          have l6_2 : zld (zs1 lv1 3 (.int v5)) 6 = some (.int q75.1) := x_o1 l6_1 rfl rfl
          generalize (zs1 lv1 3 (.int v5)) = lv2 at *
          refine q_li (k := 2) (i := 6) (q := (.iload 6, 2, 0, 0, .null)) rfl (fun _ => rfl) l6_2 ?_
          refine q_si (k := 2) (i := 4) (q := (.istore 4, 2, 0, 0, .null)) rfl (fun _ => rfl) (by decide) ?_
          have l0_3 : zld (zs1 lv2 4 (.int q75.1)) 0 = some (.ref 70) := x_o1 l0_2 rfl rfl
          have l1_3 : zld (zs1 lv2 4 (.int q75.1)) 1 = some (.int v1) := x_o1 l1_2 rfl rfl
          have l2_3 : zld (zs1 lv2 4 (.int q75.1)) 2 = some (.int v2) := x_o1 l2_2 rfl rfl
          have l3_3 : zld (zs1 lv2 4 (.int q75.1)) 3 = some (.int v5) := x_o1 l3_2 rfl rfl
          have l4_3 : zld (zs1 lv2 4 (.int q75.1)) 4 = some (.int q75.1) := zs1_ld _ _ _
          have l5_3 : zld (zs1 lv2 4 (.int q75.1)) 5 = some (.int v5) := x_o1 l5_2 rfl rfl
          have l6_3 : zld (zs1 lv2 4 (.int q75.1)) 6 = some (.int q75.1) := x_o1 l6_2 rfl rfl
          generalize (zs1 lv2 4 (.int q75.1)) = lv3 at *
          exact T261_101 H he F _ ih l0_3 l1_3 l2_3 l3_3 l4_3 l5_3 h
        · rw [if_neg (by rw [c]; decide)] at h
          refine r_s (fr' := (101, lv1, [])) (hp' := xW B q81.2) (q := (.goto 10, 3, 101, 0, .null)) rfl (fun _ => rfl) (Nat.le_refl _) ?_
          exact T261_101 H he F _ ih l0_1 l1_1 l2_1 l3_1 l4_1 l5_1 h
      · rw [if_neg (by rw [c]; decide)] at h
        refine r_s (fr' := (101, lv, [])) (hp' := xW B q53.2) (q := (.goto 42, 3, 101, 0, .null)) rfl (fun _ => rfl) (Nat.le_refl _) ?_
        exact T261_101 H he F _ ih l0 l1 l2 l3 l4 l5 h
def D261 (F : Nat) (v1 : Int32) (v2 : Int32) (m : xS) : Option (Int32 × xS) :=
  (D206 F v1 m).bind fun q2 =>
    if zcmp .eq q2.1 0 = true then
      D261_18 F v1 v2 q2.2
    else
      (D158 F (v2 : Int32).toInt64 0 1 q2.2).bind fun q12 =>
        if zcmp .ne q12.1 0 = true then
          (D208 F v1 0 q12.2).bind fun q23 =>
            (D256 F (-1) q23.2).bind fun q29 =>
              D261_37 F F v1 v2 q23.1 q29.1 0 q29.2
        else
          D261_18 F v1 v2 q12.2
set_option maxRecDepth 20000 in
theorem T261 {B : zHp} (H : yH0 B) {e : Nat} (he : 9 ≤ e + 1) (F : Nat) {v1 : Int32} {v2 : Int32} {lv : List (Nat × Value)} {m : xS} {x : Int32 × xS} (l0 : zld lv 0 = some (.ref 70)) (l1 : zld lv 1 = some (.int v1)) (l2 : zld lv 2 = some (.int v2)) (h : D261 F v1 v2 m = some x) : zR none e 7 (some .int) zc261 (0, lv, []) (xW B m) (some (.int x.1), xW B x.2) := by
  unfold D261 at h
  refine q_lr (k := 1) (i := 0) (q := (.aload_n 0, 1, 0, 0, .null)) rfl (fun _ => rfl) l0 ?_
  refine q_li (k := 1) (i := 1) (q := (.iload_n 1, 1, 0, 0, .null)) rfl (fun _ => rfl) l1 ?_
  obtain ⟨q2, h2, h⟩ := xbind h
  refine r_call (ix := 70) (as := [.int v1]) (rest := []) (rv := some (.int q2.1)) (hp' := xW B q2.2) (pc := 2) rfl xr206 rfl rfl rfl (xkd H (by decide)) (Nat.le_of_ble_eq_true rfl) (Z206 H h2 (by omega)) (Nat.le_refl _) ?_
  refine r_if (len := 3) (a := 18) (b := 0) (v0 := .null) (cn := .eq) (off := 13) rfl (fun c => ?_) (fun c => ?_)
  · rw [if_pos c] at h
    exact T261_18 H he F l0 l1 l2 h
  · rw [if_neg (by rw [c]; decide)] at h
    refine q_li (k := 1) (i := 2) (q := (.iload_n 2, 1, 0, 0, .null)) rfl (fun _ => rfl) l2 ?_
    refine r_s (fr' := (10, lv, [.long (v2 : Int32).toInt64])) (hp' := xW B q2.2) (q := (.i2l, 1, 0, 0, .null)) rfl (fun _ => rfl) (Nat.le_refl _) ?_
    refine r_s (fr' := (11, lv, [.long 0, .long (v2 : Int32).toInt64])) (hp' := xW B q2.2) (q := (.lconst 0, 1, 0, 0, .null)) rfl (fun _ => rfl) (Nat.le_refl _) ?_
    refine r_s (fr' := (12, lv, [.long 1, .long 0, .long (v2 : Int32).toInt64])) (hp' := xW B q2.2) (q := (.lconst 1, 1, 0, 0, .null)) rfl (fun _ => rfl) (Nat.le_refl _) ?_
    obtain ⟨q12, h12, h⟩ := xbind h
    refine r_callS (as := [.long (v2 : Int32).toInt64, .long 0, .long 1]) (rest := []) (rv := some (.int q12.1)) (hp' := xW B q12.2) (pc := 12) rfl xr158 rfl rfl rfl (Nat.le_of_ble_eq_true rfl) (Z158 H h12 (by omega)) (Nat.le_refl _) ?_
    refine r_if (len := 3) (a := 20) (b := 0) (v0 := .null) (cn := .ne) (off := 5) rfl (fun c => ?_) (fun c => ?_)
    · rw [if_pos c] at h
      refine q_lr (k := 1) (i := 0) (q := (.aload_n 0, 1, 0, 0, .null)) rfl (fun _ => rfl) l0 ?_
      refine q_li (k := 1) (i := 1) (q := (.iload_n 1, 1, 0, 0, .null)) rfl (fun _ => rfl) l1 ?_
      refine r_s (fr' := (23, lv, [.int 0, .int v1, .ref 70])) (hp' := xW B q12.2) (q := (.iconst 0, 1, 0, 0, .null)) rfl (fun _ => rfl) (Nat.le_refl _) ?_
      obtain ⟨q23, h23, h⟩ := xbind h
      refine r_call (ix := 70) (as := [.int v1, .int 0]) (rest := []) (rv := some (.int q23.1)) (hp' := xW B q23.2) (pc := 23) rfl xr208 rfl rfl rfl (xkd H (by decide)) (Nat.le_of_ble_eq_true rfl) (Z208 H h23 (by omega)) (Nat.le_refl _) ?_
      refine q_si (k := 1) (i := 3) (q := (.istore_n 3, 1, 0, 0, .null)) rfl (fun _ => rfl) (by decide) ?_
      have l0_1 : zld (zs1 lv 3 (.int q23.1)) 0 = some (.ref 70) := x_o1 l0 rfl rfl
      have l1_1 : zld (zs1 lv 3 (.int q23.1)) 1 = some (.int v1) := x_o1 l1 rfl rfl
      have l2_1 : zld (zs1 lv 3 (.int q23.1)) 2 = some (.int v2) := x_o1 l2 rfl rfl
      have l3_1 : zld (zs1 lv 3 (.int q23.1)) 3 = some (.int q23.1) := zs1_ld _ _ _
      generalize (zs1 lv 3 (.int q23.1)) = lv1 at *
      refine q_lr (k := 1) (i := 0) (q := (.aload_n 0, 1, 0, 0, .null)) rfl (fun _ => rfl) l0_1 ?_
      refine r_s (fr' := (29, lv1, [.int (-1), .ref 70])) (hp' := xW B q23.2) (q := (.iconst (-1), 1, 0, 0, .null)) rfl (fun _ => rfl) (Nat.le_refl _) ?_
      obtain ⟨q29, h29, h⟩ := xbind h
      refine r_call (ix := 70) (as := [.int (-1)]) (rest := []) (rv := some (.int q29.1)) (hp' := xW B q29.2) (pc := 29) rfl xr256 rfl rfl rfl (xkd H (by decide)) (Nat.le_of_ble_eq_true rfl) (Z256 H h29 (by omega)) (Nat.le_refl _) ?_
      refine q_si (k := 2) (i := 4) (q := (.istore 4, 2, 0, 0, .null)) rfl (fun _ => rfl) (by decide) ?_
      have l0_2 : zld (zs1 lv1 4 (.int q29.1)) 0 = some (.ref 70) := x_o1 l0_1 rfl rfl
      have l1_2 : zld (zs1 lv1 4 (.int q29.1)) 1 = some (.int v1) := x_o1 l1_1 rfl rfl
      have l2_2 : zld (zs1 lv1 4 (.int q29.1)) 2 = some (.int v2) := x_o1 l2_1 rfl rfl
      have l3_2 : zld (zs1 lv1 4 (.int q29.1)) 3 = some (.int q23.1) := x_o1 l3_1 rfl rfl
      have l4_2 : zld (zs1 lv1 4 (.int q29.1)) 4 = some (.int q29.1) := zs1_ld _ _ _
      generalize (zs1 lv1 4 (.int q29.1)) = lv2 at *
      refine r_s (fr' := (35, lv2, [.int 0])) (hp' := xW B q29.2) (q := (.iconst 0, 1, 0, 0, .null)) rfl (fun _ => rfl) (Nat.le_refl _) ?_
      refine q_si (k := 2) (i := 5) (q := (.istore 5, 2, 0, 0, .null)) rfl (fun _ => rfl) (by decide) ?_
      have l0_3 : zld (zs1 lv2 5 (.int 0)) 0 = some (.ref 70) := x_o1 l0_2 rfl rfl
      have l1_3 : zld (zs1 lv2 5 (.int 0)) 1 = some (.int v1) := x_o1 l1_2 rfl rfl
      have l2_3 : zld (zs1 lv2 5 (.int 0)) 2 = some (.int v2) := x_o1 l2_2 rfl rfl
      have l3_3 : zld (zs1 lv2 5 (.int 0)) 3 = some (.int q23.1) := x_o1 l3_2 rfl rfl
      have l4_3 : zld (zs1 lv2 5 (.int 0)) 4 = some (.int q29.1) := x_o1 l4_2 rfl rfl
      have l5_3 : zld (zs1 lv2 5 (.int 0)) 5 = some (.int 0) := zs1_ld _ _ _
      generalize (zs1 lv2 5 (.int 0)) = lv3 at *
      exact T261_37 H he F F l0_3 l1_3 l2_3 l3_3 l4_3 l5_3 h
    · rw [if_neg (by rw [c]; decide)] at h
      exact T261_18 H he F l0 l1 l2 h
set_option maxRecDepth 20000 in
theorem Z261 {B : zHp} (H : yH0 B) {F : Nat} {a1 : Int32} {a2 : Int32} {m : xS} {x : Int32 × xS} (h : D261 F a1 a2 m = some x) {d : Nat} (hd : 9 ≤ d) : zCan d 261 [.ref 70, .int a1, .int a2] (xW B m) (some (.int x.1), xW B x.2) := by
  obtain ⟨e, rfl⟩ : ∃ e, d = e + 1 := ⟨d - 1, by omega⟩
  refine zCan_body (nL := 7) (rt := (some .int)) (cd := zc261) (xg261) ⟨Nat.le_of_ble_eq_true rfl, by decide⟩ (Nat.le_refl _) ?_
  exact T261 H hd F rfl rfl rfl h
/-- LentToolsModel.breaks -/
def D262_19 (F : Nat) (v1 : Int32) (m : xS) : Option (Int32 × xS) :=
  some ((-1), m)
set_option maxRecDepth 20000 in
theorem T262_19 {B : zHp} (H : yH0 B) {e : Nat} (he : 9 ≤ e + 1) (F : Nat) {v1 : Int32} {lv : List (Nat × Value)} {m : xS} {x : Int32 × xS} (l0 : zld lv 0 = some (.ref 70)) (l1 : zld lv 1 = some (.int v1)) (h : D262_19 F v1 m = some x) : zR none e 9 (some .int) zc262 (19, lv, []) (xW B m) (some (.int x.1), xW B x.2) := by
  unfold D262_19 at h
  refine r_s (fr' := (20, lv, [.int (-1)])) (hp' := xW B m) (q := (.iconst (-1), 1, 0, 0, .null)) rfl (fun _ => rfl) (Nat.le_refl _) ?_
  obtain rfl := Option.some.inj h
  exact q_ri (q := (.ireturn, 1, 0, 0, .null)) rfl (fun _ => rfl) rfl rfl
def D262_141 (F : Nat) (g40 : Int32 → Int32 → Int32 → Int32 → Int32 → Int32 → xS → Option (Int32 × xS)) (g57 : Int32 → Int32 → Int32 → Int32 → Int32 → Int32 → Int32 → xS → Option (Int32 × xS)) (v1 : Int32) (v2 : Int32) (v3 : Int32) (v4 : Int32) (v5 : Int32) (v6 : Int32) (v7 : Int32) (m : xS) : Option (Int32 × xS) :=
  g57 v1 v2 v3 v4 v5 v6 (v7 + Int32.ofInt 1) m
set_option maxRecDepth 20000 in
theorem T262_141 {B : zHp} (H : yH0 B) {e : Nat} (he : 9 ≤ e + 1) (F : Nat) (g40 : Int32 → Int32 → Int32 → Int32 → Int32 → Int32 → xS → Option (Int32 × xS)) (g57 : Int32 → Int32 → Int32 → Int32 → Int32 → Int32 → Int32 → xS → Option (Int32 × xS)) (k40 : ∀ {v1 : Int32} {v2 : Int32} {v3 : Int32} {v4 : Int32} {v5 : Int32} {v6 : Int32} {lv : List (Nat × Value)} {m : xS} {x : Int32 × xS}, zld lv 0 = some (.ref 70) → zld lv 1 = some (.int v1) → zld lv 2 = some (.int v2) → zld lv 3 = some (.int v3) → zld lv 4 = some (.int v4) → zld lv 5 = some (.int v5) → zld lv 6 = some (.int v6) → g40 v1 v2 v3 v4 v5 v6 m = some x → zR none e 9 (some .int) zc262 (40, lv, []) (xW B m) (some (.int x.1), xW B x.2)) (k57 : ∀ {v1 : Int32} {v2 : Int32} {v3 : Int32} {v4 : Int32} {v5 : Int32} {v6 : Int32} {v7 : Int32} {lv : List (Nat × Value)} {m : xS} {x : Int32 × xS}, zld lv 0 = some (.ref 70) → zld lv 1 = some (.int v1) → zld lv 2 = some (.int v2) → zld lv 3 = some (.int v3) → zld lv 4 = some (.int v4) → zld lv 5 = some (.int v5) → zld lv 6 = some (.int v6) → zld lv 7 = some (.int v7) → g57 v1 v2 v3 v4 v5 v6 v7 m = some x → zR none e 9 (some .int) zc262 (57, lv, []) (xW B m) (some (.int x.1), xW B x.2)) {v1 : Int32} {v2 : Int32} {v3 : Int32} {v4 : Int32} {v5 : Int32} {v6 : Int32} {v7 : Int32} {lv : List (Nat × Value)} {m : xS} {x : Int32 × xS} (l0 : zld lv 0 = some (.ref 70)) (l1 : zld lv 1 = some (.int v1)) (l2 : zld lv 2 = some (.int v2)) (l3 : zld lv 3 = some (.int v3)) (l4 : zld lv 4 = some (.int v4)) (l5 : zld lv 5 = some (.int v5)) (l6 : zld lv 6 = some (.int v6)) (l7 : zld lv 7 = some (.int v7)) (h : D262_141 F g40 g57 v1 v2 v3 v4 v5 v6 v7 m = some x) : zR none e 9 (some .int) zc262 (141, lv, []) (xW B m) (some (.int x.1), xW B x.2) := by
  unfold D262_141 at h
  refine q_inc (i := 7) (n := 1) (q := (.iinc 7 1, 3, 0, 0, .null)) rfl (fun _ => rfl) l7 (by decide) ?_
  have l0_1 : zld (zs1 lv 7 (.int (v7 + Int32.ofInt 1))) 0 = some (.ref 70) := x_o1 l0 rfl rfl
  have l1_1 : zld (zs1 lv 7 (.int (v7 + Int32.ofInt 1))) 1 = some (.int v1) := x_o1 l1 rfl rfl
  have l2_1 : zld (zs1 lv 7 (.int (v7 + Int32.ofInt 1))) 2 = some (.int v2) := x_o1 l2 rfl rfl
  have l3_1 : zld (zs1 lv 7 (.int (v7 + Int32.ofInt 1))) 3 = some (.int v3) := x_o1 l3 rfl rfl
  have l4_1 : zld (zs1 lv 7 (.int (v7 + Int32.ofInt 1))) 4 = some (.int v4) := x_o1 l4 rfl rfl
  have l5_1 : zld (zs1 lv 7 (.int (v7 + Int32.ofInt 1))) 5 = some (.int v5) := x_o1 l5 rfl rfl
  have l6_1 : zld (zs1 lv 7 (.int (v7 + Int32.ofInt 1))) 6 = some (.int v6) := x_o1 l6 rfl rfl
  have l7_1 : zld (zs1 lv 7 (.int (v7 + Int32.ofInt 1))) 7 = some (.int (v7 + Int32.ofInt 1)) := zs1_ld _ _ _
  generalize (zs1 lv 7 (.int (v7 + Int32.ofInt 1))) = lv1 at *
  refine r_s (fr' := (57, lv1, [])) (hp' := xW B m) (q := (.goto (-87), 3, 57, 0, .null)) rfl (fun _ => rfl) (Nat.le_refl _) ?_
  exact k57 l0_1 l1_1 l2_1 l3_1 l4_1 l5_1 l6_1 l7_1 h
def D262_130 (F : Nat) (g40 : Int32 → Int32 → Int32 → Int32 → Int32 → Int32 → xS → Option (Int32 × xS)) (g57 : Int32 → Int32 → Int32 → Int32 → Int32 → Int32 → Int32 → xS → Option (Int32 × xS)) (v1 : Int32) (v2 : Int32) (v3 : Int32) (v4 : Int32) (v5 : Int32) (v6 : Int32) (v7 : Int32) (v8 : Int32) (m : xS) : Option (Int32 × xS) :=
  D262_141 F g40 g57 v1 v2 v6 v7 v8 v6 v7 m
set_option maxRecDepth 20000 in
theorem T262_130 {B : zHp} (H : yH0 B) {e : Nat} (he : 9 ≤ e + 1) (F : Nat) (g40 : Int32 → Int32 → Int32 → Int32 → Int32 → Int32 → xS → Option (Int32 × xS)) (g57 : Int32 → Int32 → Int32 → Int32 → Int32 → Int32 → Int32 → xS → Option (Int32 × xS)) (k40 : ∀ {v1 : Int32} {v2 : Int32} {v3 : Int32} {v4 : Int32} {v5 : Int32} {v6 : Int32} {lv : List (Nat × Value)} {m : xS} {x : Int32 × xS}, zld lv 0 = some (.ref 70) → zld lv 1 = some (.int v1) → zld lv 2 = some (.int v2) → zld lv 3 = some (.int v3) → zld lv 4 = some (.int v4) → zld lv 5 = some (.int v5) → zld lv 6 = some (.int v6) → g40 v1 v2 v3 v4 v5 v6 m = some x → zR none e 9 (some .int) zc262 (40, lv, []) (xW B m) (some (.int x.1), xW B x.2)) (k57 : ∀ {v1 : Int32} {v2 : Int32} {v3 : Int32} {v4 : Int32} {v5 : Int32} {v6 : Int32} {v7 : Int32} {lv : List (Nat × Value)} {m : xS} {x : Int32 × xS}, zld lv 0 = some (.ref 70) → zld lv 1 = some (.int v1) → zld lv 2 = some (.int v2) → zld lv 3 = some (.int v3) → zld lv 4 = some (.int v4) → zld lv 5 = some (.int v5) → zld lv 6 = some (.int v6) → zld lv 7 = some (.int v7) → g57 v1 v2 v3 v4 v5 v6 v7 m = some x → zR none e 9 (some .int) zc262 (57, lv, []) (xW B m) (some (.int x.1), xW B x.2)) {v1 : Int32} {v2 : Int32} {v3 : Int32} {v4 : Int32} {v5 : Int32} {v6 : Int32} {v7 : Int32} {v8 : Int32} {lv : List (Nat × Value)} {m : xS} {x : Int32 × xS} (l0 : zld lv 0 = some (.ref 70)) (l1 : zld lv 1 = some (.int v1)) (l2 : zld lv 2 = some (.int v2)) (l3 : zld lv 3 = some (.int v3)) (l4 : zld lv 4 = some (.int v4)) (l5 : zld lv 5 = some (.int v5)) (l6 : zld lv 6 = some (.int v6)) (l7 : zld lv 7 = some (.int v7)) (l8 : zld lv 8 = some (.int v8)) (h : D262_130 F g40 g57 v1 v2 v3 v4 v5 v6 v7 v8 m = some x) : zR none e 9 (some .int) zc262 (130, lv, []) (xW B m) (some (.int x.1), xW B x.2) := by
  unfold D262_130 at h
  refine q_li (k := 2) (i := 6) (q := (.iload 6, 2, 0, 0, .null)) rfl (fun _ => rfl) l6 ?_
  refine q_si (k := 1) (i := 3) (q := (.istore_n 3, 1, 0, 0, .null)) rfl (fun _ => rfl) (by decide) ?_
  have l0_1 : zld (zs1 lv 3 (.int v6)) 0 = some (.ref 70) := x_o1 l0 rfl rfl
  have l1_1 : zld (zs1 lv 3 (.int v6)) 1 = some (.int v1) := x_o1 l1 rfl rfl
  have l2_1 : zld (zs1 lv 3 (.int v6)) 2 = some (.int v2) := x_o1 l2 rfl rfl
  have l3_1 : zld (zs1 lv 3 (.int v6)) 3 = some (.int v6) := zs1_ld _ _ _
  have l4_1 : zld (zs1 lv 3 (.int v6)) 4 = some (.int v4) := x_o1 l4 rfl rfl
  have l5_1 : zld (zs1 lv 3 (.int v6)) 5 = some (.int v5) := x_o1 l5 rfl rfl
  have l6_1 : zld (zs1 lv 3 (.int v6)) 6 = some (.int v6) := x_o1 l6 rfl rfl
  have l7_1 : zld (zs1 lv 3 (.int v6)) 7 = some (.int v7) := x_o1 l7 rfl rfl
  have l8_1 : zld (zs1 lv 3 (.int v6)) 8 = some (.int v8) := x_o1 l8 rfl rfl
  generalize (zs1 lv 3 (.int v6)) = lv1 at *
  refine q_li (k := 2) (i := 7) (q := (.iload 7, 2, 0, 0, .null)) rfl (fun _ => rfl) l7_1 ?_
  refine q_si (k := 2) (i := 4) (q := (.istore 4, 2, 0, 0, .null)) rfl (fun _ => rfl) (by decide) ?_
  have l0_2 : zld (zs1 lv1 4 (.int v7)) 0 = some (.ref 70) := x_o1 l0_1 rfl rfl
  have l1_2 : zld (zs1 lv1 4 (.int v7)) 1 = some (.int v1) := x_o1 l1_1 rfl rfl
  have l2_2 : zld (zs1 lv1 4 (.int v7)) 2 = some (.int v2) := x_o1 l2_1 rfl rfl
  have l3_2 : zld (zs1 lv1 4 (.int v7)) 3 = some (.int v6) := x_o1 l3_1 rfl rfl
  have l4_2 : zld (zs1 lv1 4 (.int v7)) 4 = some (.int v7) := zs1_ld _ _ _
  have l5_2 : zld (zs1 lv1 4 (.int v7)) 5 = some (.int v5) := x_o1 l5_1 rfl rfl
  have l6_2 : zld (zs1 lv1 4 (.int v7)) 6 = some (.int v6) := x_o1 l6_1 rfl rfl
  have l7_2 : zld (zs1 lv1 4 (.int v7)) 7 = some (.int v7) := x_o1 l7_1 rfl rfl
  have l8_2 : zld (zs1 lv1 4 (.int v7)) 8 = some (.int v8) := x_o1 l8_1 rfl rfl
  generalize (zs1 lv1 4 (.int v7)) = lv2 at *
  refine q_li (k := 2) (i := 8) (q := (.iload 8, 2, 0, 0, .null)) rfl (fun _ => rfl) l8_2 ?_
  refine q_si (k := 2) (i := 5) (q := (.istore 5, 2, 0, 0, .null)) rfl (fun _ => rfl) (by decide) ?_
  have l0_3 : zld (zs1 lv2 5 (.int v8)) 0 = some (.ref 70) := x_o1 l0_2 rfl rfl
  have l1_3 : zld (zs1 lv2 5 (.int v8)) 1 = some (.int v1) := x_o1 l1_2 rfl rfl
  have l2_3 : zld (zs1 lv2 5 (.int v8)) 2 = some (.int v2) := x_o1 l2_2 rfl rfl
  have l3_3 : zld (zs1 lv2 5 (.int v8)) 3 = some (.int v6) := x_o1 l3_2 rfl rfl
  have l4_3 : zld (zs1 lv2 5 (.int v8)) 4 = some (.int v7) := x_o1 l4_2 rfl rfl
  have l5_3 : zld (zs1 lv2 5 (.int v8)) 5 = some (.int v8) := zs1_ld _ _ _
  have l6_3 : zld (zs1 lv2 5 (.int v8)) 6 = some (.int v6) := x_o1 l6_2 rfl rfl
  have l7_3 : zld (zs1 lv2 5 (.int v8)) 7 = some (.int v7) := x_o1 l7_2 rfl rfl
  have l8_3 : zld (zs1 lv2 5 (.int v8)) 8 = some (.int v8) := x_o1 l8_2 rfl rfl
  generalize (zs1 lv2 5 (.int v8)) = lv3 at *
  exact T262_141 H he F _ _ k40 k57 l0_3 l1_3 l2_3 l3_3 l4_3 l5_3 l6_3 l7_3 h
def D262_93 (F : Nat) (g40 : Int32 → Int32 → Int32 → Int32 → Int32 → Int32 → xS → Option (Int32 × xS)) (g57 : Int32 → Int32 → Int32 → Int32 → Int32 → Int32 → Int32 → xS → Option (Int32 × xS)) (v1 : Int32) (v2 : Int32) (v3 : Int32) (v4 : Int32) (v5 : Int32) (v6 : Int32) (v7 : Int32) (m : xS) : Option (Int32 × xS) :=
  (D259 F m).bind fun q94 =>
    (D229 F v6 v7 q94.2).bind fun q102 =>
      (D256 F (-1) q102.2).bind fun q107 =>
        (D260 F q107.2).bind fun q113 =>
          if zcmp .lt v3 0 = true then
            D262_130 F g40 g57 v1 v2 v3 v4 v5 v6 v7 q107.1 q113.2
          else
            if zcmp .lt q107.1 v5 = true then
              D262_130 F g40 g57 v1 v2 v3 v4 v5 v6 v7 q107.1 q113.2
            else
              D262_141 F g40 g57 v1 v2 v3 v4 v5 v6 v7 q113.2
set_option maxRecDepth 20000 in
theorem T262_93 {B : zHp} (H : yH0 B) {e : Nat} (he : 9 ≤ e + 1) (F : Nat) (g40 : Int32 → Int32 → Int32 → Int32 → Int32 → Int32 → xS → Option (Int32 × xS)) (g57 : Int32 → Int32 → Int32 → Int32 → Int32 → Int32 → Int32 → xS → Option (Int32 × xS)) (k40 : ∀ {v1 : Int32} {v2 : Int32} {v3 : Int32} {v4 : Int32} {v5 : Int32} {v6 : Int32} {lv : List (Nat × Value)} {m : xS} {x : Int32 × xS}, zld lv 0 = some (.ref 70) → zld lv 1 = some (.int v1) → zld lv 2 = some (.int v2) → zld lv 3 = some (.int v3) → zld lv 4 = some (.int v4) → zld lv 5 = some (.int v5) → zld lv 6 = some (.int v6) → g40 v1 v2 v3 v4 v5 v6 m = some x → zR none e 9 (some .int) zc262 (40, lv, []) (xW B m) (some (.int x.1), xW B x.2)) (k57 : ∀ {v1 : Int32} {v2 : Int32} {v3 : Int32} {v4 : Int32} {v5 : Int32} {v6 : Int32} {v7 : Int32} {lv : List (Nat × Value)} {m : xS} {x : Int32 × xS}, zld lv 0 = some (.ref 70) → zld lv 1 = some (.int v1) → zld lv 2 = some (.int v2) → zld lv 3 = some (.int v3) → zld lv 4 = some (.int v4) → zld lv 5 = some (.int v5) → zld lv 6 = some (.int v6) → zld lv 7 = some (.int v7) → g57 v1 v2 v3 v4 v5 v6 v7 m = some x → zR none e 9 (some .int) zc262 (57, lv, []) (xW B m) (some (.int x.1), xW B x.2)) {v1 : Int32} {v2 : Int32} {v3 : Int32} {v4 : Int32} {v5 : Int32} {v6 : Int32} {v7 : Int32} {lv : List (Nat × Value)} {m : xS} {x : Int32 × xS} (l0 : zld lv 0 = some (.ref 70)) (l1 : zld lv 1 = some (.int v1)) (l2 : zld lv 2 = some (.int v2)) (l3 : zld lv 3 = some (.int v3)) (l4 : zld lv 4 = some (.int v4)) (l5 : zld lv 5 = some (.int v5)) (l6 : zld lv 6 = some (.int v6)) (l7 : zld lv 7 = some (.int v7)) (h : D262_93 F g40 g57 v1 v2 v3 v4 v5 v6 v7 m = some x) : zR none e 9 (some .int) zc262 (93, lv, []) (xW B m) (some (.int x.1), xW B x.2) := by
  unfold D262_93 at h
  refine q_lr (k := 1) (i := 0) (q := (.aload_n 0, 1, 0, 0, .null)) rfl (fun _ => rfl) l0 ?_
  obtain ⟨q94, h94, h⟩ := xbind h
  refine r_call (ix := 70) (as := []) (rest := []) (rv := none) (hp' := xW B q94.2) (pc := 94) rfl xr259 rfl rfl rfl (xkd H (by decide)) (Nat.le_of_ble_eq_true rfl) (Z259 H h94 (by omega)) (Nat.le_refl _) ?_
  refine q_lr (k := 1) (i := 0) (q := (.aload_n 0, 1, 0, 0, .null)) rfl (fun _ => rfl) l0 ?_
  refine q_li (k := 2) (i := 6) (q := (.iload 6, 2, 0, 0, .null)) rfl (fun _ => rfl) l6 ?_
  refine q_li (k := 2) (i := 7) (q := (.iload 7, 2, 0, 0, .null)) rfl (fun _ => rfl) l7 ?_
  obtain ⟨q102, h102, h⟩ := xbind h
  refine r_call (ix := 70) (as := [.int v6, .int v7]) (rest := []) (rv := none) (hp' := xW B q102.2) (pc := 102) rfl xr229 rfl rfl rfl (xkd H (by decide)) (Nat.le_of_ble_eq_true rfl) (Z229 H h102 (by omega)) (Nat.le_refl _) ?_
  refine q_lr (k := 1) (i := 0) (q := (.aload_n 0, 1, 0, 0, .null)) rfl (fun _ => rfl) l0 ?_
  refine r_s (fr' := (107, lv, [.int (-1), .ref 70])) (hp' := xW B q102.2) (q := (.iconst (-1), 1, 0, 0, .null)) rfl (fun _ => rfl) (Nat.le_refl _) ?_
  obtain ⟨q107, h107, h⟩ := xbind h
  refine r_call (ix := 70) (as := [.int (-1)]) (rest := []) (rv := some (.int q107.1)) (hp' := xW B q107.2) (pc := 107) rfl xr256 rfl rfl rfl (xkd H (by decide)) (Nat.le_of_ble_eq_true rfl) (Z256 H h107 (by omega)) (Nat.le_refl _) ?_
  refine q_si (k := 2) (i := 8) (q := (.istore 8, 2, 0, 0, .null)) rfl (fun _ => rfl) (by decide) ?_
  have l0_1 : zld (zs1 lv 8 (.int q107.1)) 0 = some (.ref 70) := x_o1 l0 rfl rfl
  have l1_1 : zld (zs1 lv 8 (.int q107.1)) 1 = some (.int v1) := x_o1 l1 rfl rfl
  have l2_1 : zld (zs1 lv 8 (.int q107.1)) 2 = some (.int v2) := x_o1 l2 rfl rfl
  have l3_1 : zld (zs1 lv 8 (.int q107.1)) 3 = some (.int v3) := x_o1 l3 rfl rfl
  have l4_1 : zld (zs1 lv 8 (.int q107.1)) 4 = some (.int v4) := x_o1 l4 rfl rfl
  have l5_1 : zld (zs1 lv 8 (.int q107.1)) 5 = some (.int v5) := x_o1 l5 rfl rfl
  have l6_1 : zld (zs1 lv 8 (.int q107.1)) 6 = some (.int v6) := x_o1 l6 rfl rfl
  have l7_1 : zld (zs1 lv 8 (.int q107.1)) 7 = some (.int v7) := x_o1 l7 rfl rfl
  have l8_1 : zld (zs1 lv 8 (.int q107.1)) 8 = some (.int q107.1) := zs1_ld _ _ _
  generalize (zs1 lv 8 (.int q107.1)) = lv1 at *
  refine q_lr (k := 1) (i := 0) (q := (.aload_n 0, 1, 0, 0, .null)) rfl (fun _ => rfl) l0_1 ?_
  obtain ⟨q113, h113, h⟩ := xbind h
  refine r_call (ix := 70) (as := []) (rest := []) (rv := none) (hp' := xW B q113.2) (pc := 113) rfl xr260 rfl rfl rfl (xkd H (by decide)) (Nat.le_of_ble_eq_true rfl) (Z260 H h113 (by omega)) (Nat.le_refl _) ?_
  refine q_li (k := 1) (i := 3) (q := (.iload_n 3, 1, 0, 0, .null)) rfl (fun _ => rfl) l3_1 ?_
  refine r_if (len := 3) (a := 130) (b := 0) (v0 := .null) (cn := .lt) (off := 13) rfl (fun c => ?_) (fun c => ?_)
  · rw [if_pos c] at h
    exact T262_130 H he F _ _ k40 k57 l0_1 l1_1 l2_1 l3_1 l4_1 l5_1 l6_1 l7_1 l8_1 h
  · rw [if_neg (by rw [c]; decide)] at h
    refine q_li (k := 2) (i := 8) (q := (.iload 8, 2, 0, 0, .null)) rfl (fun _ => rfl) l8_1 ?_
    refine q_li (k := 2) (i := 5) (q := (.iload 5, 2, 0, 0, .null)) rfl (fun _ => rfl) l5_1 ?_
    refine r_ifc (len := 3) (a := 130) (b := 0) (v0 := .null) (cn := .lt) (off := 6) rfl (fun c => ?_) (fun c => ?_)
    · rw [if_pos c] at h
      exact T262_130 H he F _ _ k40 k57 l0_1 l1_1 l2_1 l3_1 l4_1 l5_1 l6_1 l7_1 l8_1 h
    · rw [if_neg (by rw [c]; decide)] at h
      refine r_s (fr' := (141, lv1, [])) (hp' := xW B q113.2) (q := (.goto 14, 3, 141, 0, .null)) rfl (fun _ => rfl) (Nat.le_refl _) ?_
      exact T262_141 H he F _ _ k40 k57 l0_1 l1_1 l2_1 l3_1 l4_1 l5_1 l6_1 l7_1 h
def D262_57 (F : Nat) (g40 : Int32 → Int32 → Int32 → Int32 → Int32 → Int32 → xS → Option (Int32 × xS)) : Nat → Int32 → Int32 → Int32 → Int32 → Int32 → Int32 → Int32 → xS → Option (Int32 × xS)
  | 0, _, _, _, _, _, _, _, _ => none
  | f + 1, v1, v2, v3, v4, v5, v6, v7, m =>
    if zcmp .ge v7 (m.1 80 0) = true then
      g40 v1 v2 v3 v4 v5 (v6 + Int32.ofInt 1) m
    else
      (D210 F v6 v7 m).bind fun q73 =>
        if zcmp .ne q73.1 0 = true then
          D262_93 F g40 (D262_57 F g40 f) v1 v2 v3 v4 v5 v6 v7 q73.2
        else
          (D210 F v7 v6 q73.2).bind fun q84 =>
            if zcmp .ne q84.1 0 = true then
              D262_93 F g40 (D262_57 F g40 f) v1 v2 v3 v4 v5 v6 v7 q84.2
            else
              D262_141 F g40 (D262_57 F g40 f) v1 v2 v3 v4 v5 v6 v7 q84.2
set_option maxRecDepth 20000 in
theorem T262_57 {B : zHp} (H : yH0 B) {e : Nat} (he : 9 ≤ e + 1) (F : Nat) (g40 : Int32 → Int32 → Int32 → Int32 → Int32 → Int32 → xS → Option (Int32 × xS)) (k40 : ∀ {v1 : Int32} {v2 : Int32} {v3 : Int32} {v4 : Int32} {v5 : Int32} {v6 : Int32} {lv : List (Nat × Value)} {m : xS} {x : Int32 × xS}, zld lv 0 = some (.ref 70) → zld lv 1 = some (.int v1) → zld lv 2 = some (.int v2) → zld lv 3 = some (.int v3) → zld lv 4 = some (.int v4) → zld lv 5 = some (.int v5) → zld lv 6 = some (.int v6) → g40 v1 v2 v3 v4 v5 v6 m = some x → zR none e 9 (some .int) zc262 (40, lv, []) (xW B m) (some (.int x.1), xW B x.2)) : ∀ (f : Nat) {v1 : Int32} {v2 : Int32} {v3 : Int32} {v4 : Int32} {v5 : Int32} {v6 : Int32} {v7 : Int32} {lv : List (Nat × Value)} {m : xS} {x : Int32 × xS}, zld lv 0 = some (.ref 70) → zld lv 1 = some (.int v1) → zld lv 2 = some (.int v2) → zld lv 3 = some (.int v3) → zld lv 4 = some (.int v4) → zld lv 5 = some (.int v5) → zld lv 6 = some (.int v6) → zld lv 7 = some (.int v7) → D262_57 F g40 f v1 v2 v3 v4 v5 v6 v7 m = some x → zR none e 9 (some .int) zc262 (57, lv, []) (xW B m) (some (.int x.1), xW B x.2) := by
  intro f
  induction f with
  | zero => intro v1 v2 v3 v4 v5 v6 v7 lv m x l0 l1 l2 l3 l4 l5 l6 l7 h; cases h
  | succ f ih =>
    intro v1 v2 v3 v4 v5 v6 v7 lv m x l0 l1 l2 l3 l4 l5 l6 l7 h
    unfold D262_57 at h
    refine q_li (k := 2) (i := 7) (q := (.iload 7, 2, 0, 0, .null)) rfl (fun _ => rfl) l7 ?_
    refine q_lr (k := 1) (i := 0) (q := (.aload_n 0, 1, 0, 0, .null)) rfl (fun _ => rfl) l0 ?_
    refine r_gr (c := 80) H (pc := 60) rfl (by decide) (by decide) ?_
    refine r_s (fr' := (64, lv, [.int 0, .ref 80, .int v7])) (hp' := xW B m) (q := (.iconst 0, 1, 0, 0, .null)) rfl (fun _ => rfl) (Nat.le_refl _) ?_
    refine q_al (n := 148) (v := (m.1 80 0)) H (pc := 64) rfl (by decide) (by decide) rfl ?_
    refine r_ifc (len := 3) (a := 147) (b := 0) (v0 := .null) (cn := .ge) (off := 82) rfl (fun c => ?_) (fun c => ?_)
    · rw [if_pos c] at h
      refine q_inc (i := 6) (n := 1) (q := (.iinc 6 1, 3, 0, 0, .null)) rfl (fun _ => rfl) l6 (by decide) ?_
      have l0_1 : zld (zs1 lv 6 (.int (v6 + Int32.ofInt 1))) 0 = some (.ref 70) := x_o1 l0 rfl rfl
      have l1_1 : zld (zs1 lv 6 (.int (v6 + Int32.ofInt 1))) 1 = some (.int v1) := x_o1 l1 rfl rfl
      have l2_1 : zld (zs1 lv 6 (.int (v6 + Int32.ofInt 1))) 2 = some (.int v2) := x_o1 l2 rfl rfl
      have l3_1 : zld (zs1 lv 6 (.int (v6 + Int32.ofInt 1))) 3 = some (.int v3) := x_o1 l3 rfl rfl
      have l4_1 : zld (zs1 lv 6 (.int (v6 + Int32.ofInt 1))) 4 = some (.int v4) := x_o1 l4 rfl rfl
      have l5_1 : zld (zs1 lv 6 (.int (v6 + Int32.ofInt 1))) 5 = some (.int v5) := x_o1 l5 rfl rfl
      have l6_1 : zld (zs1 lv 6 (.int (v6 + Int32.ofInt 1))) 6 = some (.int (v6 + Int32.ofInt 1)) := zs1_ld _ _ _
      have l7_1 : zld (zs1 lv 6 (.int (v6 + Int32.ofInt 1))) 7 = some (.int v7) := x_o1 l7 rfl rfl
      generalize (zs1 lv 6 (.int (v6 + Int32.ofInt 1))) = lv1 at *
      refine r_s (fr' := (40, lv1, [])) (hp' := xW B m) (q := (.goto (-110), 3, 40, 0, .null)) rfl (fun _ => rfl) (Nat.le_refl _) ?_
      exact k40 l0_1 l1_1 l2_1 l3_1 l4_1 l5_1 l6_1 h
    · rw [if_neg (by rw [c]; decide)] at h
      refine q_lr (k := 1) (i := 0) (q := (.aload_n 0, 1, 0, 0, .null)) rfl (fun _ => rfl) l0 ?_
      refine q_li (k := 2) (i := 6) (q := (.iload 6, 2, 0, 0, .null)) rfl (fun _ => rfl) l6 ?_
      refine q_li (k := 2) (i := 7) (q := (.iload 7, 2, 0, 0, .null)) rfl (fun _ => rfl) l7 ?_
      obtain ⟨q73, h73, h⟩ := xbind h
      refine r_call (ix := 70) (as := [.int v6, .int v7]) (rest := []) (rv := some (.int q73.1)) (hp' := xW B q73.2) (pc := 73) rfl xr210 rfl rfl rfl (xkd H (by decide)) (Nat.le_of_ble_eq_true rfl) (Z210 H h73 (by omega)) (Nat.le_refl _) ?_
      refine r_if (len := 3) (a := 93) (b := 0) (v0 := .null) (cn := .ne) (off := 17) rfl (fun c => ?_) (fun c => ?_)
      · rw [if_pos c] at h
        exact T262_93 H he F _ _ k40 ih l0 l1 l2 l3 l4 l5 l6 l7 h
      · rw [if_neg (by rw [c]; decide)] at h
        refine q_lr (k := 1) (i := 0) (q := (.aload_n 0, 1, 0, 0, .null)) rfl (fun _ => rfl) l0 ?_
        refine q_li (k := 2) (i := 7) (q := (.iload 7, 2, 0, 0, .null)) rfl (fun _ => rfl) l7 ?_
        refine q_li (k := 2) (i := 6) (q := (.iload 6, 2, 0, 0, .null)) rfl (fun _ => rfl) l6 ?_
        obtain ⟨q84, h84, h⟩ := xbind h
        refine r_call (ix := 70) (as := [.int v7, .int v6]) (rest := []) (rv := some (.int q84.1)) (hp' := xW B q84.2) (pc := 84) rfl xr210 rfl rfl rfl (xkd H (by decide)) (Nat.le_of_ble_eq_true rfl) (Z210 H h84 (by omega)) (Nat.le_refl _) ?_
        refine r_if (len := 3) (a := 93) (b := 0) (v0 := .null) (cn := .ne) (off := 6) rfl (fun c => ?_) (fun c => ?_)
        · rw [if_pos c] at h
          exact T262_93 H he F _ _ k40 ih l0 l1 l2 l3 l4 l5 l6 l7 h
        · rw [if_neg (by rw [c]; decide)] at h
          refine r_s (fr' := (141, lv, [])) (hp' := xW B q84.2) (q := (.goto 51, 3, 141, 0, .null)) rfl (fun _ => rfl) (Nat.le_refl _) ?_
          exact T262_141 H he F _ _ k40 ih l0 l1 l2 l3 l4 l5 l6 l7 h
def D262_40 (F : Nat) : Nat → Int32 → Int32 → Int32 → Int32 → Int32 → Int32 → xS → Option (Int32 × xS)
  | 0, _, _, _, _, _, _, _ => none
  | f + 1, v1, v2, v3, v4, v5, v6, m =>
    if zcmp .ge v6 (m.1 80 0) = true then
      if zcmp .ge v3 0 = true then
        if zcmp .ne v1 0 = true then
          if zcmp .ne v1 1 = true then
            some ((v2 - v5), m)
          else
            some (v4, m)
        else
          some (v3, m)
      else
        some ((-2), m)
    else
      D262_57 F (D262_40 F f) F v1 v2 v3 v4 v5 v6 (v6 + 1) m
set_option maxRecDepth 20000 in
theorem T262_40 {B : zHp} (H : yH0 B) {e : Nat} (he : 9 ≤ e + 1) (F : Nat) : ∀ (f : Nat) {v1 : Int32} {v2 : Int32} {v3 : Int32} {v4 : Int32} {v5 : Int32} {v6 : Int32} {lv : List (Nat × Value)} {m : xS} {x : Int32 × xS}, zld lv 0 = some (.ref 70) → zld lv 1 = some (.int v1) → zld lv 2 = some (.int v2) → zld lv 3 = some (.int v3) → zld lv 4 = some (.int v4) → zld lv 5 = some (.int v5) → zld lv 6 = some (.int v6) → D262_40 F f v1 v2 v3 v4 v5 v6 m = some x → zR none e 9 (some .int) zc262 (40, lv, []) (xW B m) (some (.int x.1), xW B x.2) := by
  intro f
  induction f with
  | zero => intro v1 v2 v3 v4 v5 v6 lv m x l0 l1 l2 l3 l4 l5 l6 h; cases h
  | succ f ih =>
    intro v1 v2 v3 v4 v5 v6 lv m x l0 l1 l2 l3 l4 l5 l6 h
    unfold D262_40 at h
    refine q_li (k := 2) (i := 6) (q := (.iload 6, 2, 0, 0, .null)) rfl (fun _ => rfl) l6 ?_
    refine q_lr (k := 1) (i := 0) (q := (.aload_n 0, 1, 0, 0, .null)) rfl (fun _ => rfl) l0 ?_
    refine r_gr (c := 80) H (pc := 43) rfl (by decide) (by decide) ?_
    refine r_s (fr' := (47, lv, [.int 0, .ref 80, .int v6])) (hp' := xW B m) (q := (.iconst 0, 1, 0, 0, .null)) rfl (fun _ => rfl) (Nat.le_refl _) ?_
    refine q_al (n := 148) (v := (m.1 80 0)) H (pc := 47) rfl (by decide) (by decide) rfl ?_
    refine r_ifc (len := 3) (a := 153) (b := 0) (v0 := .null) (cn := .ge) (off := 105) rfl (fun c => ?_) (fun c => ?_)
    · rw [if_pos c] at h
      refine q_li (k := 1) (i := 3) (q := (.iload_n 3, 1, 0, 0, .null)) rfl (fun _ => rfl) l3 ?_
      refine r_if (len := 3) (a := 162) (b := 0) (v0 := .null) (cn := .ge) (off := 8) rfl (fun c => ?_) (fun c => ?_)
      · rw [if_pos c] at h
        refine q_li (k := 1) (i := 1) (q := (.iload_n 1, 1, 0, 0, .null)) rfl (fun _ => rfl) l1 ?_
        refine r_if (len := 3) (a := 170) (b := 0) (v0 := .null) (cn := .ne) (off := 7) rfl (fun c => ?_) (fun c => ?_)
        · rw [if_pos c] at h
          refine q_li (k := 1) (i := 1) (q := (.iload_n 1, 1, 0, 0, .null)) rfl (fun _ => rfl) l1 ?_
          refine r_s (fr' := (172, lv, [.int 1, .int v1])) (hp' := xW B m) (q := (.iconst 1, 1, 0, 0, .null)) rfl (fun _ => rfl) (Nat.le_refl _) ?_
          refine r_ifc (len := 3) (a := 180) (b := 0) (v0 := .null) (cn := .ne) (off := 8) rfl (fun c => ?_) (fun c => ?_)
          · rw [if_pos c] at h
            refine q_li (k := 1) (i := 2) (q := (.iload_n 2, 1, 0, 0, .null)) rfl (fun _ => rfl) l2 ?_
            refine q_li (k := 2) (i := 5) (q := (.iload 5, 2, 0, 0, .null)) rfl (fun _ => rfl) l5 ?_
            refine r_s (fr' := (184, lv, [.int (v2 - v5)])) (hp' := xW B m) (q := (.isub, 1, 0, 0, .null)) rfl (fun _ => rfl) (Nat.le_refl _) ?_
            obtain rfl := Option.some.inj h
            exact q_ri (q := (.ireturn, 1, 0, 0, .null)) rfl (fun _ => rfl) rfl rfl
          · rw [if_neg (by rw [c]; decide)] at h
            refine q_li (k := 2) (i := 4) (q := (.iload 4, 2, 0, 0, .null)) rfl (fun _ => rfl) l4 ?_
            refine r_s (fr' := (184, lv, [.int v4])) (hp' := xW B m) (q := (.goto 7, 3, 184, 0, .null)) rfl (fun _ => rfl) (Nat.le_refl _) ?_
            obtain rfl := Option.some.inj h
            exact q_ri (q := (.ireturn, 1, 0, 0, .null)) rfl (fun _ => rfl) rfl rfl
        · rw [if_neg (by rw [c]; decide)] at h
          refine q_li (k := 1) (i := 3) (q := (.iload_n 3, 1, 0, 0, .null)) rfl (fun _ => rfl) l3 ?_
          refine r_s (fr' := (184, lv, [.int v3])) (hp' := xW B m) (q := (.goto 17, 3, 184, 0, .null)) rfl (fun _ => rfl) (Nat.le_refl _) ?_
          obtain rfl := Option.some.inj h
          exact q_ri (q := (.ireturn, 1, 0, 0, .null)) rfl (fun _ => rfl) rfl rfl
      · rw [if_neg (by rw [c]; decide)] at h
        refine r_s (fr' := (159, lv, [.int (-2)])) (hp' := xW B m) (q := (.bipush (-2), 2, 0, 0, .null)) rfl (fun _ => rfl) (Nat.le_refl _) ?_
        refine r_s (fr' := (184, lv, [.int (-2)])) (hp' := xW B m) (q := (.goto 25, 3, 184, 0, .null)) rfl (fun _ => rfl) (Nat.le_refl _) ?_
        obtain rfl := Option.some.inj h
        exact q_ri (q := (.ireturn, 1, 0, 0, .null)) rfl (fun _ => rfl) rfl rfl
    · rw [if_neg (by rw [c]; decide)] at h
      refine q_li (k := 2) (i := 6) (q := (.iload 6, 2, 0, 0, .null)) rfl (fun _ => rfl) l6 ?_
      refine r_s (fr' := (54, lv, [.int 1, .int v6])) (hp' := xW B m) (q := (.iconst 1, 1, 0, 0, .null)) rfl (fun _ => rfl) (Nat.le_refl _) ?_
      refine r_s (fr' := (55, lv, [.int (v6 + 1)])) (hp' := xW B m) (q := (.iadd, 1, 0, 0, .null)) rfl (fun _ => rfl) (Nat.le_refl _) ?_
      refine q_si (k := 2) (i := 7) (q := (.istore 7, 2, 0, 0, .null)) rfl (fun _ => rfl) (by decide) ?_
      have l0_1 : zld (zs1 lv 7 (.int (v6 + 1))) 0 = some (.ref 70) := x_o1 l0 rfl rfl
      have l1_1 : zld (zs1 lv 7 (.int (v6 + 1))) 1 = some (.int v1) := x_o1 l1 rfl rfl
      have l2_1 : zld (zs1 lv 7 (.int (v6 + 1))) 2 = some (.int v2) := x_o1 l2 rfl rfl
      have l3_1 : zld (zs1 lv 7 (.int (v6 + 1))) 3 = some (.int v3) := x_o1 l3 rfl rfl
      have l4_1 : zld (zs1 lv 7 (.int (v6 + 1))) 4 = some (.int v4) := x_o1 l4 rfl rfl
      have l5_1 : zld (zs1 lv 7 (.int (v6 + 1))) 5 = some (.int v5) := x_o1 l5 rfl rfl
      have l6_1 : zld (zs1 lv 7 (.int (v6 + 1))) 6 = some (.int v6) := x_o1 l6 rfl rfl
      have l7_1 : zld (zs1 lv 7 (.int (v6 + 1))) 7 = some (.int (v6 + 1)) := zs1_ld _ _ _
      generalize (zs1 lv 7 (.int (v6 + 1))) = lv1 at *
      exact T262_57 H he F _ ih F l0_1 l1_1 l2_1 l3_1 l4_1 l5_1 l6_1 l7_1 h
def D262 (F : Nat) (v1 : Int32) (m : xS) : Option (Int32 × xS) :=
  (D204 F m).bind fun q1 =>
    if zcmp .eq q1.1 0 = true then
      D262_19 F v1 q1.2
    else
      (D158 F (v1 : Int32).toInt64 0 2 q1.2).bind fun q13 =>
        if zcmp .ne q13.1 0 = true then
          (D256 F (-1) q13.2).bind fun q23 =>
            D262_40 F F v1 q23.1 (-2) (-2) 0 0 q23.2
        else
          D262_19 F v1 q13.2
set_option maxRecDepth 20000 in
theorem T262 {B : zHp} (H : yH0 B) {e : Nat} (he : 9 ≤ e + 1) (F : Nat) {v1 : Int32} {lv : List (Nat × Value)} {m : xS} {x : Int32 × xS} (l0 : zld lv 0 = some (.ref 70)) (l1 : zld lv 1 = some (.int v1)) (h : D262 F v1 m = some x) : zR none e 9 (some .int) zc262 (0, lv, []) (xW B m) (some (.int x.1), xW B x.2) := by
  unfold D262 at h
  refine q_lr (k := 1) (i := 0) (q := (.aload_n 0, 1, 0, 0, .null)) rfl (fun _ => rfl) l0 ?_
  obtain ⟨q1, h1, h⟩ := xbind h
  refine r_call (ix := 70) (as := []) (rest := []) (rv := some (.int q1.1)) (hp' := xW B q1.2) (pc := 1) rfl xr204 rfl rfl rfl (xkd H (by decide)) (Nat.le_of_ble_eq_true rfl) (Z204 H h1 (by omega)) (Nat.le_refl _) ?_
  refine r_if (len := 3) (a := 19) (b := 0) (v0 := .null) (cn := .eq) (off := 15) rfl (fun c => ?_) (fun c => ?_)
  · rw [if_pos c] at h
    exact T262_19 H he F l0 l1 h
  · rw [if_neg (by rw [c]; decide)] at h
    refine q_li (k := 1) (i := 1) (q := (.iload_n 1, 1, 0, 0, .null)) rfl (fun _ => rfl) l1 ?_
    refine r_s (fr' := (9, lv, [.long (v1 : Int32).toInt64])) (hp' := xW B q1.2) (q := (.i2l, 1, 0, 0, .null)) rfl (fun _ => rfl) (Nat.le_refl _) ?_
    refine r_s (fr' := (10, lv, [.long 0, .long (v1 : Int32).toInt64])) (hp' := xW B q1.2) (q := (.lconst 0, 1, 0, 0, .null)) rfl (fun _ => rfl) (Nat.le_refl _) ?_
    refine r_s (fr' := (13, lv, [.long 2, .long 0, .long (v1 : Int32).toInt64])) (hp' := xW B q1.2) (q := (.ldc2_w 440, 3, 0, 0, .long 2)) rfl (fun _ => rfl) (Nat.le_refl _) ?_
    obtain ⟨q13, h13, h⟩ := xbind h
    refine r_callS (as := [.long (v1 : Int32).toInt64, .long 0, .long 2]) (rest := []) (rv := some (.int q13.1)) (hp' := xW B q13.2) (pc := 13) rfl xr158 rfl rfl rfl (Nat.le_of_ble_eq_true rfl) (Z158 H h13 (by omega)) (Nat.le_refl _) ?_
    refine r_if (len := 3) (a := 21) (b := 0) (v0 := .null) (cn := .ne) (off := 5) rfl (fun c => ?_) (fun c => ?_)
    · rw [if_pos c] at h
      refine q_lr (k := 1) (i := 0) (q := (.aload_n 0, 1, 0, 0, .null)) rfl (fun _ => rfl) l0 ?_
      refine r_s (fr' := (23, lv, [.int (-1), .ref 70])) (hp' := xW B q13.2) (q := (.iconst (-1), 1, 0, 0, .null)) rfl (fun _ => rfl) (Nat.le_refl _) ?_
      obtain ⟨q23, h23, h⟩ := xbind h
      refine r_call (ix := 70) (as := [.int (-1)]) (rest := []) (rv := some (.int q23.1)) (hp' := xW B q23.2) (pc := 23) rfl xr256 rfl rfl rfl (xkd H (by decide)) (Nat.le_of_ble_eq_true rfl) (Z256 H h23 (by omega)) (Nat.le_refl _) ?_
      refine q_si (k := 1) (i := 2) (q := (.istore_n 2, 1, 0, 0, .null)) rfl (fun _ => rfl) (by decide) ?_
      have l0_1 : zld (zs1 lv 2 (.int q23.1)) 0 = some (.ref 70) := x_o1 l0 rfl rfl
      have l1_1 : zld (zs1 lv 2 (.int q23.1)) 1 = some (.int v1) := x_o1 l1 rfl rfl
      have l2_1 : zld (zs1 lv 2 (.int q23.1)) 2 = some (.int q23.1) := zs1_ld _ _ _
      generalize (zs1 lv 2 (.int q23.1)) = lv1 at *
      refine r_s (fr' := (29, lv1, [.int (-2)])) (hp' := xW B q23.2) (q := (.bipush (-2), 2, 0, 0, .null)) rfl (fun _ => rfl) (Nat.le_refl _) ?_
      refine q_si (k := 1) (i := 3) (q := (.istore_n 3, 1, 0, 0, .null)) rfl (fun _ => rfl) (by decide) ?_
      have l0_2 : zld (zs1 lv1 3 (.int (-2))) 0 = some (.ref 70) := x_o1 l0_1 rfl rfl
      have l1_2 : zld (zs1 lv1 3 (.int (-2))) 1 = some (.int v1) := x_o1 l1_1 rfl rfl
      have l2_2 : zld (zs1 lv1 3 (.int (-2))) 2 = some (.int q23.1) := x_o1 l2_1 rfl rfl
      have l3_2 : zld (zs1 lv1 3 (.int (-2))) 3 = some (.int (-2)) := zs1_ld _ _ _
      generalize (zs1 lv1 3 (.int (-2))) = lv2 at *
      refine r_s (fr' := (32, lv2, [.int (-2)])) (hp' := xW B q23.2) (q := (.bipush (-2), 2, 0, 0, .null)) rfl (fun _ => rfl) (Nat.le_refl _) ?_
      refine q_si (k := 2) (i := 4) (q := (.istore 4, 2, 0, 0, .null)) rfl (fun _ => rfl) (by decide) ?_
      have l0_3 : zld (zs1 lv2 4 (.int (-2))) 0 = some (.ref 70) := x_o1 l0_2 rfl rfl
      have l1_3 : zld (zs1 lv2 4 (.int (-2))) 1 = some (.int v1) := x_o1 l1_2 rfl rfl
      have l2_3 : zld (zs1 lv2 4 (.int (-2))) 2 = some (.int q23.1) := x_o1 l2_2 rfl rfl
      have l3_3 : zld (zs1 lv2 4 (.int (-2))) 3 = some (.int (-2)) := x_o1 l3_2 rfl rfl
      have l4_3 : zld (zs1 lv2 4 (.int (-2))) 4 = some (.int (-2)) := zs1_ld _ _ _
      generalize (zs1 lv2 4 (.int (-2))) = lv3 at *
      refine r_s (fr' := (35, lv3, [.int 0])) (hp' := xW B q23.2) (q := (.iconst 0, 1, 0, 0, .null)) rfl (fun _ => rfl) (Nat.le_refl _) ?_
      refine q_si (k := 2) (i := 5) (q := (.istore 5, 2, 0, 0, .null)) rfl (fun _ => rfl) (by decide) ?_
      have l0_4 : zld (zs1 lv3 5 (.int 0)) 0 = some (.ref 70) := x_o1 l0_3 rfl rfl
      have l1_4 : zld (zs1 lv3 5 (.int 0)) 1 = some (.int v1) := x_o1 l1_3 rfl rfl
      have l2_4 : zld (zs1 lv3 5 (.int 0)) 2 = some (.int q23.1) := x_o1 l2_3 rfl rfl
      have l3_4 : zld (zs1 lv3 5 (.int 0)) 3 = some (.int (-2)) := x_o1 l3_3 rfl rfl
      have l4_4 : zld (zs1 lv3 5 (.int 0)) 4 = some (.int (-2)) := x_o1 l4_3 rfl rfl
      have l5_4 : zld (zs1 lv3 5 (.int 0)) 5 = some (.int 0) := zs1_ld _ _ _
      generalize (zs1 lv3 5 (.int 0)) = lv4 at *
      refine r_s (fr' := (38, lv4, [.int 0])) (hp' := xW B q23.2) (q := (.iconst 0, 1, 0, 0, .null)) rfl (fun _ => rfl) (Nat.le_refl _) ?_
      refine q_si (k := 2) (i := 6) (q := (.istore 6, 2, 0, 0, .null)) rfl (fun _ => rfl) (by decide) ?_
      have l0_5 : zld (zs1 lv4 6 (.int 0)) 0 = some (.ref 70) := x_o1 l0_4 rfl rfl
      have l1_5 : zld (zs1 lv4 6 (.int 0)) 1 = some (.int v1) := x_o1 l1_4 rfl rfl
      have l2_5 : zld (zs1 lv4 6 (.int 0)) 2 = some (.int q23.1) := x_o1 l2_4 rfl rfl
      have l3_5 : zld (zs1 lv4 6 (.int 0)) 3 = some (.int (-2)) := x_o1 l3_4 rfl rfl
      have l4_5 : zld (zs1 lv4 6 (.int 0)) 4 = some (.int (-2)) := x_o1 l4_4 rfl rfl
      have l5_5 : zld (zs1 lv4 6 (.int 0)) 5 = some (.int 0) := x_o1 l5_4 rfl rfl
      have l6_5 : zld (zs1 lv4 6 (.int 0)) 6 = some (.int 0) := zs1_ld _ _ _
      generalize (zs1 lv4 6 (.int 0)) = lv5 at *
      exact T262_40 H he F F l0_5 l1_5 l2_5 l3_5 l4_5 l5_5 l6_5 h
    · rw [if_neg (by rw [c]; decide)] at h
      exact T262_19 H he F l0 l1 h
set_option maxRecDepth 20000 in
theorem Z262 {B : zHp} (H : yH0 B) {F : Nat} {a1 : Int32} {m : xS} {x : Int32 × xS} (h : D262 F a1 m = some x) {d : Nat} (hd : 9 ≤ d) : zCan d 262 [.ref 70, .int a1] (xW B m) (some (.int x.1), xW B x.2) := by
  obtain ⟨e, rfl⟩ : ∃ e, d = e + 1 := ⟨d - 1, by omega⟩
  refine zCan_body (nL := 9) (rt := (some .int)) (cd := zc262) (xg262) ⟨Nat.le_of_ble_eq_true rfl, by decide⟩ (Nat.le_refl _) ?_
  exact T262 H hd F rfl rfl h
/-- LentToolsModel.getsOne -/
def D270_44 (F : Nat) (g2 : Int32 → Int32 → Int32 → xS → Option (Int32 × xS)) (v1 : Int32) (v2 : Int32) (v3 : Int32) (m : xS) : Option (Int32 × xS) :=
  g2 v1 v2 (v3 + Int32.ofInt 1) m
set_option maxRecDepth 20000 in
theorem T270_44 {B : zHp} (H : yH0 B) {e : Nat} (he : 7 ≤ e + 1) (F : Nat) (g2 : Int32 → Int32 → Int32 → xS → Option (Int32 × xS)) (k2 : ∀ {v1 : Int32} {v2 : Int32} {v3 : Int32} {lv : List (Nat × Value)} {m : xS} {x : Int32 × xS}, zld lv 0 = some (.ref 70) → zld lv 1 = some (.int v1) → zld lv 2 = some (.int v2) → zld lv 3 = some (.int v3) → g2 v1 v2 v3 m = some x → zR none e 4 (some .boolean) zc270 (2, lv, []) (xW B m) (some (.int x.1), xW B x.2)) {v1 : Int32} {v2 : Int32} {v3 : Int32} {lv : List (Nat × Value)} {m : xS} {x : Int32 × xS} (l0 : zld lv 0 = some (.ref 70)) (l1 : zld lv 1 = some (.int v1)) (l2 : zld lv 2 = some (.int v2)) (l3 : zld lv 3 = some (.int v3)) (h : D270_44 F g2 v1 v2 v3 m = some x) : zR none e 4 (some .boolean) zc270 (44, lv, []) (xW B m) (some (.int x.1), xW B x.2) := by
  unfold D270_44 at h
  refine q_inc (i := 3) (n := 1) (q := (.iinc 3 1, 3, 0, 0, .null)) rfl (fun _ => rfl) l3 (by decide) ?_
  have l0_1 : zld (zs1 lv 3 (.int (v3 + Int32.ofInt 1))) 0 = some (.ref 70) := x_o1 l0 rfl rfl
  have l1_1 : zld (zs1 lv 3 (.int (v3 + Int32.ofInt 1))) 1 = some (.int v1) := x_o1 l1 rfl rfl
  have l2_1 : zld (zs1 lv 3 (.int (v3 + Int32.ofInt 1))) 2 = some (.int v2) := x_o1 l2 rfl rfl
  have l3_1 : zld (zs1 lv 3 (.int (v3 + Int32.ofInt 1))) 3 = some (.int (v3 + Int32.ofInt 1)) := zs1_ld _ _ _
  generalize (zs1 lv 3 (.int (v3 + Int32.ofInt 1))) = lv1 at *
  refine r_s (fr' := (2, lv1, [])) (hp' := xW B m) (q := (.goto (-45), 3, 2, 0, .null)) rfl (fun _ => rfl) (Nat.le_refl _) ?_
  exact k2 l0_1 l1_1 l2_1 l3_1 h
def D270_2 (F : Nat) : Nat → Int32 → Int32 → Int32 → xS → Option (Int32 × xS)
  | 0, _, _, _, _ => none
  | f + 1, v1, v2, v3, m =>
    if zcmp .ge v3 (m.1 80 2) = true then
      some (0, m)
    else
      (D208 F v3 1 m).bind fun q15 =>
        if zcmp .ne q15.1 v2 = true then
          D270_44 F (D270_2 F f) v1 v2 v3 q15.2
        else
          (D208 F v3 0 q15.2).bind fun q25 =>
            if zcmp .eq q25.1 v1 = true then
              D270_44 F (D270_2 F f) v1 v2 v3 q25.2
            else
              (D251 F v3 v1 0 q25.2).bind fun q36 =>
                if zcmp .lt q36.1 0 = true then
                  D270_44 F (D270_2 F f) v1 v2 v3 q36.2
                else
                  some (1, q36.2)
set_option maxRecDepth 20000 in
theorem T270_2 {B : zHp} (H : yH0 B) {e : Nat} (he : 7 ≤ e + 1) (F : Nat) : ∀ (f : Nat) {v1 : Int32} {v2 : Int32} {v3 : Int32} {lv : List (Nat × Value)} {m : xS} {x : Int32 × xS}, zld lv 0 = some (.ref 70) → zld lv 1 = some (.int v1) → zld lv 2 = some (.int v2) → zld lv 3 = some (.int v3) → D270_2 F f v1 v2 v3 m = some x → zR none e 4 (some .boolean) zc270 (2, lv, []) (xW B m) (some (.int x.1), xW B x.2) := by
  intro f
  induction f with
  | zero => intro v1 v2 v3 lv m x l0 l1 l2 l3 h; cases h
  | succ f ih =>
    intro v1 v2 v3 lv m x l0 l1 l2 l3 h
    unfold D270_2 at h
    refine q_li (k := 1) (i := 3) (q := (.iload_n 3, 1, 0, 0, .null)) rfl (fun _ => rfl) l3 ?_
    refine q_lr (k := 1) (i := 0) (q := (.aload_n 0, 1, 0, 0, .null)) rfl (fun _ => rfl) l0 ?_
    refine r_gr (c := 80) H (pc := 4) rfl (by decide) (by decide) ?_
    refine r_s (fr' := (8, lv, [.int 2, .ref 80, .int v3])) (hp' := xW B m) (q := (.iconst 2, 1, 0, 0, .null)) rfl (fun _ => rfl) (Nat.le_refl _) ?_
    refine q_al (n := 148) (v := (m.1 80 2)) H (pc := 8) rfl (by decide) (by decide) rfl ?_
    refine r_ifc (len := 3) (a := 50) (b := 0) (v0 := .null) (cn := .ge) (off := 41) rfl (fun c => ?_) (fun c => ?_)
    · rw [if_pos c] at h
      refine r_s (fr' := (51, lv, [.int 0])) (hp' := xW B m) (q := (.iconst 0, 1, 0, 0, .null)) rfl (fun _ => rfl) (Nat.le_refl _) ?_
      obtain rfl := Option.some.inj h
      exact q_ri (q := (.ireturn, 1, 0, 0, .null)) rfl (fun _ => rfl) rfl rfl
    · rw [if_neg (by rw [c]; decide)] at h
      refine q_lr (k := 1) (i := 0) (q := (.aload_n 0, 1, 0, 0, .null)) rfl (fun _ => rfl) l0 ?_
      refine q_li (k := 1) (i := 3) (q := (.iload_n 3, 1, 0, 0, .null)) rfl (fun _ => rfl) l3 ?_
      refine r_s (fr' := (15, lv, [.int 1, .int v3, .ref 70])) (hp' := xW B m) (q := (.iconst 1, 1, 0, 0, .null)) rfl (fun _ => rfl) (Nat.le_refl _) ?_
      obtain ⟨q15, h15, h⟩ := xbind h
      refine r_call (ix := 70) (as := [.int v3, .int 1]) (rest := []) (rv := some (.int q15.1)) (hp' := xW B q15.2) (pc := 15) rfl xr208 rfl rfl rfl (xkd H (by decide)) (Nat.le_of_ble_eq_true rfl) (Z208 H h15 (by omega)) (Nat.le_refl _) ?_
      refine q_li (k := 1) (i := 2) (q := (.iload_n 2, 1, 0, 0, .null)) rfl (fun _ => rfl) l2 ?_
      refine r_ifc (len := 3) (a := 44) (b := 0) (v0 := .null) (cn := .ne) (off := 25) rfl (fun c => ?_) (fun c => ?_)
      · rw [if_pos c] at h
        exact T270_44 H he F _ ih l0 l1 l2 l3 h
      · rw [if_neg (by rw [c]; decide)] at h
        refine q_lr (k := 1) (i := 0) (q := (.aload_n 0, 1, 0, 0, .null)) rfl (fun _ => rfl) l0 ?_
        refine q_li (k := 1) (i := 3) (q := (.iload_n 3, 1, 0, 0, .null)) rfl (fun _ => rfl) l3 ?_
        refine r_s (fr' := (25, lv, [.int 0, .int v3, .ref 70])) (hp' := xW B q15.2) (q := (.iconst 0, 1, 0, 0, .null)) rfl (fun _ => rfl) (Nat.le_refl _) ?_
        obtain ⟨q25, h25, h⟩ := xbind h
        refine r_call (ix := 70) (as := [.int v3, .int 0]) (rest := []) (rv := some (.int q25.1)) (hp' := xW B q25.2) (pc := 25) rfl xr208 rfl rfl rfl (xkd H (by decide)) (Nat.le_of_ble_eq_true rfl) (Z208 H h25 (by omega)) (Nat.le_refl _) ?_
        refine q_li (k := 1) (i := 1) (q := (.iload_n 1, 1, 0, 0, .null)) rfl (fun _ => rfl) l1 ?_
        refine r_ifc (len := 3) (a := 44) (b := 0) (v0 := .null) (cn := .eq) (off := 15) rfl (fun c => ?_) (fun c => ?_)
        · rw [if_pos c] at h
          exact T270_44 H he F _ ih l0 l1 l2 l3 h
        · rw [if_neg (by rw [c]; decide)] at h
          refine q_lr (k := 1) (i := 0) (q := (.aload_n 0, 1, 0, 0, .null)) rfl (fun _ => rfl) l0 ?_
          refine q_li (k := 1) (i := 3) (q := (.iload_n 3, 1, 0, 0, .null)) rfl (fun _ => rfl) l3 ?_
          refine q_li (k := 1) (i := 1) (q := (.iload_n 1, 1, 0, 0, .null)) rfl (fun _ => rfl) l1 ?_
          refine r_s (fr' := (36, lv, [.int 0, .int v1, .int v3, .ref 70])) (hp' := xW B q25.2) (q := (.iconst 0, 1, 0, 0, .null)) rfl (fun _ => rfl) (Nat.le_refl _) ?_
          obtain ⟨q36, h36, h⟩ := xbind h
          refine r_call (ix := 70) (as := [.int v3, .int v1, .int 0]) (rest := []) (rv := some (.int q36.1)) (hp' := xW B q36.2) (pc := 36) rfl xr251 rfl rfl rfl (xkd H (by decide)) (Nat.le_of_ble_eq_true rfl) (Z251 H h36 (by omega)) (Nat.le_refl _) ?_
          refine r_if (len := 3) (a := 44) (b := 0) (v0 := .null) (cn := .lt) (off := 5) rfl (fun c => ?_) (fun c => ?_)
          · rw [if_pos c] at h
            exact T270_44 H he F _ ih l0 l1 l2 l3 h
          · rw [if_neg (by rw [c]; decide)] at h
            refine r_s (fr' := (43, lv, [.int 1])) (hp' := xW B q36.2) (q := (.iconst 1, 1, 0, 0, .null)) rfl (fun _ => rfl) (Nat.le_refl _) ?_
            obtain rfl := Option.some.inj h
            exact q_ri (q := (.ireturn, 1, 0, 0, .null)) rfl (fun _ => rfl) rfl rfl
def D270 (F : Nat) (v1 : Int32) (v2 : Int32) (m : xS) : Option (Int32 × xS) :=
  D270_2 F F v1 v2 0 m
set_option maxRecDepth 20000 in
theorem T270 {B : zHp} (H : yH0 B) {e : Nat} (he : 7 ≤ e + 1) (F : Nat) {v1 : Int32} {v2 : Int32} {lv : List (Nat × Value)} {m : xS} {x : Int32 × xS} (l0 : zld lv 0 = some (.ref 70)) (l1 : zld lv 1 = some (.int v1)) (l2 : zld lv 2 = some (.int v2)) (h : D270 F v1 v2 m = some x) : zR none e 4 (some .boolean) zc270 (0, lv, []) (xW B m) (some (.int x.1), xW B x.2) := by
  unfold D270 at h
  refine r_s (fr' := (1, lv, [.int 0])) (hp' := xW B m) (q := (.iconst 0, 1, 0, 0, .null)) rfl (fun _ => rfl) (Nat.le_refl _) ?_
  refine q_si (k := 1) (i := 3) (q := (.istore_n 3, 1, 0, 0, .null)) rfl (fun _ => rfl) (by decide) ?_
  have l0_1 : zld (zs1 lv 3 (.int 0)) 0 = some (.ref 70) := x_o1 l0 rfl rfl
  have l1_1 : zld (zs1 lv 3 (.int 0)) 1 = some (.int v1) := x_o1 l1 rfl rfl
  have l2_1 : zld (zs1 lv 3 (.int 0)) 2 = some (.int v2) := x_o1 l2 rfl rfl
  have l3_1 : zld (zs1 lv 3 (.int 0)) 3 = some (.int 0) := zs1_ld _ _ _
  generalize (zs1 lv 3 (.int 0)) = lv1 at *
  exact T270_2 H he F F l0_1 l1_1 l2_1 l3_1 h
set_option maxRecDepth 20000 in
theorem Z270 {B : zHp} (H : yH0 B) {F : Nat} {a1 : Int32} {a2 : Int32} {m : xS} {x : Int32 × xS} (h : D270 F a1 a2 m = some x) {d : Nat} (hd : 7 ≤ d) : zCan d 270 [.ref 70, .int a1, .int a2] (xW B m) (some (.int x.1), xW B x.2) := by
  obtain ⟨e, rfl⟩ : ∃ e, d = e + 1 := ⟨d - 1, by omega⟩
  refine zCan_body (nL := 4) (rt := (some .boolean)) (cd := zc270) (xg270) ⟨Nat.le_of_ble_eq_true rfl, by decide⟩ (Nat.le_refl _) ?_
  exact T270 H hd F rfl rfl rfl h
/-- LentToolsModel.isSafe -/
def D271_49 (F : Nat) (g2 : Int32 → Int32 → Int32 → xS → Option (Int32 × xS)) (v1 : Int32) (v2 : Int32) (v3 : Int32) (m : xS) : Option (Int32 × xS) :=
  g2 v1 v2 (v3 + Int32.ofInt 1) m
set_option maxRecDepth 20000 in
theorem T271_49 {B : zHp} (H : yH0 B) {e : Nat} (he : 8 ≤ e + 1) (F : Nat) (g2 : Int32 → Int32 → Int32 → xS → Option (Int32 × xS)) (k2 : ∀ {v1 : Int32} {v2 : Int32} {v3 : Int32} {lv : List (Nat × Value)} {m : xS} {x : Int32 × xS}, zld lv 0 = some (.ref 70) → zld lv 1 = some (.int v1) → zld lv 2 = some (.int v2) → zld lv 3 = some (.int v3) → g2 v1 v2 v3 m = some x → zR none e 5 (some .boolean) zc271 (2, lv, []) (xW B m) (some (.int x.1), xW B x.2)) {v1 : Int32} {v2 : Int32} {v3 : Int32} {lv : List (Nat × Value)} {m : xS} {x : Int32 × xS} (l0 : zld lv 0 = some (.ref 70)) (l1 : zld lv 1 = some (.int v1)) (l2 : zld lv 2 = some (.int v2)) (l3 : zld lv 3 = some (.int v3)) (h : D271_49 F g2 v1 v2 v3 m = some x) : zR none e 5 (some .boolean) zc271 (49, lv, []) (xW B m) (some (.int x.1), xW B x.2) := by
  unfold D271_49 at h
  refine q_inc (i := 3) (n := 1) (q := (.iinc 3 1, 3, 0, 0, .null)) rfl (fun _ => rfl) l3 (by decide) ?_
  have l0_1 : zld (zs1 lv 3 (.int (v3 + Int32.ofInt 1))) 0 = some (.ref 70) := x_o1 l0 rfl rfl
  have l1_1 : zld (zs1 lv 3 (.int (v3 + Int32.ofInt 1))) 1 = some (.int v1) := x_o1 l1 rfl rfl
  have l2_1 : zld (zs1 lv 3 (.int (v3 + Int32.ofInt 1))) 2 = some (.int v2) := x_o1 l2 rfl rfl
  have l3_1 : zld (zs1 lv 3 (.int (v3 + Int32.ofInt 1))) 3 = some (.int (v3 + Int32.ofInt 1)) := zs1_ld _ _ _
  generalize (zs1 lv 3 (.int (v3 + Int32.ofInt 1))) = lv1 at *
  refine r_s (fr' := (2, lv1, [])) (hp' := xW B m) (q := (.goto (-50), 3, 2, 0, .null)) rfl (fun _ => rfl) (Nat.le_refl _) ?_
  exact k2 l0_1 l1_1 l2_1 l3_1 h
def D271_2 (F : Nat) : Nat → Int32 → Int32 → Int32 → xS → Option (Int32 × xS)
  | 0, _, _, _, _ => none
  | f + 1, v1, v2, v3, m =>
    if zcmp .ge v3 (m.1 80 0) = true then
      some (1, m)
    else
      if zcmp .ne v3 v1 = true then
        (D259 F m).bind fun q21 =>
          (D229 F v1 v3 q21.2).bind fun q27 =>
            (D270 F v1 v2 q27.2).bind fun q33 =>
              (D260 F q33.2).bind fun q39 =>
                if zcmp .ne q33.1 0 = true then
                  D271_49 F (D271_2 F f) v1 v2 v3 q39.2
                else
                  some (0, q39.2)
      else
        D271_49 F (D271_2 F f) v1 v2 v3 m
set_option maxRecDepth 20000 in
theorem T271_2 {B : zHp} (H : yH0 B) {e : Nat} (he : 8 ≤ e + 1) (F : Nat) : ∀ (f : Nat) {v1 : Int32} {v2 : Int32} {v3 : Int32} {lv : List (Nat × Value)} {m : xS} {x : Int32 × xS}, zld lv 0 = some (.ref 70) → zld lv 1 = some (.int v1) → zld lv 2 = some (.int v2) → zld lv 3 = some (.int v3) → D271_2 F f v1 v2 v3 m = some x → zR none e 5 (some .boolean) zc271 (2, lv, []) (xW B m) (some (.int x.1), xW B x.2) := by
  intro f
  induction f with
  | zero => intro v1 v2 v3 lv m x l0 l1 l2 l3 h; cases h
  | succ f ih =>
    intro v1 v2 v3 lv m x l0 l1 l2 l3 h
    unfold D271_2 at h
    refine q_li (k := 1) (i := 3) (q := (.iload_n 3, 1, 0, 0, .null)) rfl (fun _ => rfl) l3 ?_
    refine q_lr (k := 1) (i := 0) (q := (.aload_n 0, 1, 0, 0, .null)) rfl (fun _ => rfl) l0 ?_
    refine r_gr (c := 80) H (pc := 4) rfl (by decide) (by decide) ?_
    refine r_s (fr' := (8, lv, [.int 0, .ref 80, .int v3])) (hp' := xW B m) (q := (.iconst 0, 1, 0, 0, .null)) rfl (fun _ => rfl) (Nat.le_refl _) ?_
    refine q_al (n := 148) (v := (m.1 80 0)) H (pc := 8) rfl (by decide) (by decide) rfl ?_
    refine r_ifc (len := 3) (a := 55) (b := 0) (v0 := .null) (cn := .ge) (off := 46) rfl (fun c => ?_) (fun c => ?_)
    · rw [if_pos c] at h
      refine r_s (fr' := (56, lv, [.int 1])) (hp' := xW B m) (q := (.iconst 1, 1, 0, 0, .null)) rfl (fun _ => rfl) (Nat.le_refl _) ?_
      obtain rfl := Option.some.inj h
      exact q_ri (q := (.ireturn, 1, 0, 0, .null)) rfl (fun _ => rfl) rfl rfl
    · rw [if_neg (by rw [c]; decide)] at h
      refine q_li (k := 1) (i := 3) (q := (.iload_n 3, 1, 0, 0, .null)) rfl (fun _ => rfl) l3 ?_
      refine q_li (k := 1) (i := 1) (q := (.iload_n 1, 1, 0, 0, .null)) rfl (fun _ => rfl) l1 ?_
      refine r_ifc (len := 3) (a := 20) (b := 0) (v0 := .null) (cn := .ne) (off := 6) rfl (fun c => ?_) (fun c => ?_)
      · rw [if_pos c] at h
        refine q_lr (k := 1) (i := 0) (q := (.aload_n 0, 1, 0, 0, .null)) rfl (fun _ => rfl) l0 ?_
        obtain ⟨q21, h21, h⟩ := xbind h
        refine r_call (ix := 70) (as := []) (rest := []) (rv := none) (hp' := xW B q21.2) (pc := 21) rfl xr259 rfl rfl rfl (xkd H (by decide)) (Nat.le_of_ble_eq_true rfl) (Z259 H h21 (by omega)) (Nat.le_refl _) ?_
        refine q_lr (k := 1) (i := 0) (q := (.aload_n 0, 1, 0, 0, .null)) rfl (fun _ => rfl) l0 ?_
        refine q_li (k := 1) (i := 1) (q := (.iload_n 1, 1, 0, 0, .null)) rfl (fun _ => rfl) l1 ?_
        refine q_li (k := 1) (i := 3) (q := (.iload_n 3, 1, 0, 0, .null)) rfl (fun _ => rfl) l3 ?_
        obtain ⟨q27, h27, h⟩ := xbind h
        refine r_call (ix := 70) (as := [.int v1, .int v3]) (rest := []) (rv := none) (hp' := xW B q27.2) (pc := 27) rfl xr229 rfl rfl rfl (xkd H (by decide)) (Nat.le_of_ble_eq_true rfl) (Z229 H h27 (by omega)) (Nat.le_refl _) ?_
        refine q_lr (k := 1) (i := 0) (q := (.aload_n 0, 1, 0, 0, .null)) rfl (fun _ => rfl) l0 ?_
        refine q_li (k := 1) (i := 1) (q := (.iload_n 1, 1, 0, 0, .null)) rfl (fun _ => rfl) l1 ?_
        refine q_li (k := 1) (i := 2) (q := (.iload_n 2, 1, 0, 0, .null)) rfl (fun _ => rfl) l2 ?_
        obtain ⟨q33, h33, h⟩ := xbind h
        refine r_call (ix := 70) (as := [.int v1, .int v2]) (rest := []) (rv := some (.int q33.1)) (hp' := xW B q33.2) (pc := 33) rfl xr270 rfl rfl rfl (xkd H (by decide)) (Nat.le_of_ble_eq_true rfl) (Z270 H h33 (by omega)) (Nat.le_refl _) ?_
        refine q_si (k := 2) (i := 4) (q := (.istore 4, 2, 0, 0, .null)) rfl (fun _ => rfl) (by decide) ?_
        have l0_1 : zld (zs1 lv 4 (.int q33.1)) 0 = some (.ref 70) := x_o1 l0 rfl rfl
        have l1_1 : zld (zs1 lv 4 (.int q33.1)) 1 = some (.int v1) := x_o1 l1 rfl rfl
        have l2_1 : zld (zs1 lv 4 (.int q33.1)) 2 = some (.int v2) := x_o1 l2 rfl rfl
        have l3_1 : zld (zs1 lv 4 (.int q33.1)) 3 = some (.int v3) := x_o1 l3 rfl rfl
        have l4_1 : zld (zs1 lv 4 (.int q33.1)) 4 = some (.int q33.1) := zs1_ld _ _ _
        generalize (zs1 lv 4 (.int q33.1)) = lv1 at *
        refine q_lr (k := 1) (i := 0) (q := (.aload_n 0, 1, 0, 0, .null)) rfl (fun _ => rfl) l0_1 ?_
        obtain ⟨q39, h39, h⟩ := xbind h
        refine r_call (ix := 70) (as := []) (rest := []) (rv := none) (hp' := xW B q39.2) (pc := 39) rfl xr260 rfl rfl rfl (xkd H (by decide)) (Nat.le_of_ble_eq_true rfl) (Z260 H h39 (by omega)) (Nat.le_refl _) ?_
        refine q_li (k := 2) (i := 4) (q := (.iload 4, 2, 0, 0, .null)) rfl (fun _ => rfl) l4_1 ?_
        refine r_if (len := 3) (a := 49) (b := 0) (v0 := .null) (cn := .ne) (off := 5) rfl (fun c => ?_) (fun c => ?_)
        · rw [if_pos c] at h
          exact T271_49 H he F _ ih l0_1 l1_1 l2_1 l3_1 h
        · rw [if_neg (by rw [c]; decide)] at h
          refine r_s (fr' := (48, lv1, [.int 0])) (hp' := xW B q39.2) (q := (.iconst 0, 1, 0, 0, .null)) rfl (fun _ => rfl) (Nat.le_refl _) ?_
          obtain rfl := Option.some.inj h
          exact q_ri (q := (.ireturn, 1, 0, 0, .null)) rfl (fun _ => rfl) rfl rfl
      · rw [if_neg (by rw [c]; decide)] at h
        refine r_s (fr' := (49, lv, [])) (hp' := xW B m) (q := (.goto 32, 3, 49, 0, .null)) rfl (fun _ => rfl) (Nat.le_refl _) ?_
        exact T271_49 H he F _ ih l0 l1 l2 l3 h
def D271 (F : Nat) (v1 : Int32) (v2 : Int32) (m : xS) : Option (Int32 × xS) :=
  D271_2 F F v1 v2 0 m
set_option maxRecDepth 20000 in
theorem T271 {B : zHp} (H : yH0 B) {e : Nat} (he : 8 ≤ e + 1) (F : Nat) {v1 : Int32} {v2 : Int32} {lv : List (Nat × Value)} {m : xS} {x : Int32 × xS} (l0 : zld lv 0 = some (.ref 70)) (l1 : zld lv 1 = some (.int v1)) (l2 : zld lv 2 = some (.int v2)) (h : D271 F v1 v2 m = some x) : zR none e 5 (some .boolean) zc271 (0, lv, []) (xW B m) (some (.int x.1), xW B x.2) := by
  unfold D271 at h
  refine r_s (fr' := (1, lv, [.int 0])) (hp' := xW B m) (q := (.iconst 0, 1, 0, 0, .null)) rfl (fun _ => rfl) (Nat.le_refl _) ?_
  refine q_si (k := 1) (i := 3) (q := (.istore_n 3, 1, 0, 0, .null)) rfl (fun _ => rfl) (by decide) ?_
  have l0_1 : zld (zs1 lv 3 (.int 0)) 0 = some (.ref 70) := x_o1 l0 rfl rfl
  have l1_1 : zld (zs1 lv 3 (.int 0)) 1 = some (.int v1) := x_o1 l1 rfl rfl
  have l2_1 : zld (zs1 lv 3 (.int 0)) 2 = some (.int v2) := x_o1 l2 rfl rfl
  have l3_1 : zld (zs1 lv 3 (.int 0)) 3 = some (.int 0) := zs1_ld _ _ _
  generalize (zs1 lv 3 (.int 0)) = lv1 at *
  exact T271_2 H he F F l0_1 l1_1 l2_1 l3_1 h
set_option maxRecDepth 20000 in
theorem Z271 {B : zHp} (H : yH0 B) {F : Nat} {a1 : Int32} {a2 : Int32} {m : xS} {x : Int32 × xS} (h : D271 F a1 a2 m = some x) {d : Nat} (hd : 8 ≤ d) : zCan d 271 [.ref 70, .int a1, .int a2] (xW B m) (some (.int x.1), xW B x.2) := by
  obtain ⟨e, rfl⟩ : ∃ e, d = e + 1 := ⟨d - 1, by omega⟩
  refine zCan_body (nL := 5) (rt := (some .boolean)) (cd := zc271) (xg271) ⟨Nat.le_of_ble_eq_true rfl, by decide⟩ (Nat.le_refl _) ?_
  exact T271 H hd F rfl rfl rfl h
/-- LentToolsModel.safe -/
def D272_19 (F : Nat) (v1 : Int32) (m : xS) : Option (Int32 × xS) :=
  some ((-1), m)
set_option maxRecDepth 20000 in
theorem T272_19 {B : zHp} (H : yH0 B) {e : Nat} (he : 9 ≤ e + 1) (F : Nat) {v1 : Int32} {lv : List (Nat × Value)} {m : xS} {x : Int32 × xS} (l0 : zld lv 0 = some (.ref 70)) (l1 : zld lv 1 = some (.int v1)) (h : D272_19 F v1 m = some x) : zR none e 4 (some .int) zc272 (19, lv, []) (xW B m) (some (.int x.1), xW B x.2) := by
  unfold D272_19 at h
  refine r_s (fr' := (20, lv, [.int (-1)])) (hp' := xW B m) (q := (.iconst (-1), 1, 0, 0, .null)) rfl (fun _ => rfl) (Nat.le_refl _) ?_
  obtain rfl := Option.some.inj h
  exact q_ri (q := (.ireturn, 1, 0, 0, .null)) rfl (fun _ => rfl) rfl rfl
def D272_52 (F : Nat) (g25 : Int32 → Int32 → Int32 → xS → Option (Int32 × xS)) (v1 : Int32) (v2 : Int32) (v3 : Int32) (w0 : Int32) (w1 : Int32) (m : xS) : Option (Int32 × xS) :=
  g25 v1 (w1 ||| w0) (v3 + Int32.ofInt 1) m
set_option maxRecDepth 20000 in
theorem T272_52 {B : zHp} (H : yH0 B) {e : Nat} (he : 9 ≤ e + 1) (F : Nat) (g25 : Int32 → Int32 → Int32 → xS → Option (Int32 × xS)) (k25 : ∀ {v1 : Int32} {v2 : Int32} {v3 : Int32} {lv : List (Nat × Value)} {m : xS} {x : Int32 × xS}, zld lv 0 = some (.ref 70) → zld lv 1 = some (.int v1) → zld lv 2 = some (.int v2) → zld lv 3 = some (.int v3) → g25 v1 v2 v3 m = some x → zR none e 4 (some .int) zc272 (25, lv, []) (xW B m) (some (.int x.1), xW B x.2)) {v1 : Int32} {v2 : Int32} {v3 : Int32} {w0 : Int32} {w1 : Int32} {lv : List (Nat × Value)} {m : xS} {x : Int32 × xS} (l0 : zld lv 0 = some (.ref 70)) (l1 : zld lv 1 = some (.int v1)) (l2 : zld lv 2 = some (.int v2)) (l3 : zld lv 3 = some (.int v3)) (h : D272_52 F g25 v1 v2 v3 w0 w1 m = some x) : zR none e 4 (some .int) zc272 (52, lv, [.int w0, .int w1]) (xW B m) (some (.int x.1), xW B x.2) := by
  unfold D272_52 at h
  refine r_s (fr' := (53, lv, [.int (w1 ||| w0)])) (hp' := xW B m) (q := (.ior, 1, 0, 0, .null)) rfl (fun _ => rfl) (Nat.le_refl _) ?_
  refine q_si (k := 1) (i := 2) (q := (.istore_n 2, 1, 0, 0, .null)) rfl (fun _ => rfl) (by decide) ?_
  have l0_1 : zld (zs1 lv 2 (.int (w1 ||| w0))) 0 = some (.ref 70) := x_o1 l0 rfl rfl
  have l1_1 : zld (zs1 lv 2 (.int (w1 ||| w0))) 1 = some (.int v1) := x_o1 l1 rfl rfl
  have l2_1 : zld (zs1 lv 2 (.int (w1 ||| w0))) 2 = some (.int (w1 ||| w0)) := zs1_ld _ _ _
  have l3_1 : zld (zs1 lv 2 (.int (w1 ||| w0))) 3 = some (.int v3) := x_o1 l3 rfl rfl
  generalize (zs1 lv 2 (.int (w1 ||| w0))) = lv1 at *
  refine q_inc (i := 3) (n := 1) (q := (.iinc 3 1, 3, 0, 0, .null)) rfl (fun _ => rfl) l3_1 (by decide) ?_
  have l0_2 : zld (zs1 lv1 3 (.int (v3 + Int32.ofInt 1))) 0 = some (.ref 70) := x_o1 l0_1 rfl rfl
  have l1_2 : zld (zs1 lv1 3 (.int (v3 + Int32.ofInt 1))) 1 = some (.int v1) := x_o1 l1_1 rfl rfl
  have l2_2 : zld (zs1 lv1 3 (.int (v3 + Int32.ofInt 1))) 2 = some (.int (w1 ||| w0)) := x_o1 l2_1 rfl rfl
  have l3_2 : zld (zs1 lv1 3 (.int (v3 + Int32.ofInt 1))) 3 = some (.int (v3 + Int32.ofInt 1)) := zs1_ld _ _ _
  generalize (zs1 lv1 3 (.int (v3 + Int32.ofInt 1))) = lv2 at *
  refine r_s (fr' := (25, lv2, [])) (hp' := xW B m) (q := (.goto (-32), 3, 25, 0, .null)) rfl (fun _ => rfl) (Nat.le_refl _) ?_
  exact k25 l0_2 l1_2 l2_2 l3_2 h
def D272_25 (F : Nat) : Nat → Int32 → Int32 → Int32 → xS → Option (Int32 × xS)
  | 0, _, _, _, _ => none
  | f + 1, v1, v2, v3, m =>
    if zcmp .ge v3 (m.1 80 0) = true then
      some (v2, m)
    else
      (D271 F v3 v1 m).bind fun q39 =>
        if zcmp .eq q39.1 0 = true then
          D272_52 F (D272_25 F f) v1 v2 v3 0 v2 q39.2
        else
          D272_52 F (D272_25 F f) v1 v2 v3 (1 <<< (v3 &&& 31)) v2 q39.2
set_option maxRecDepth 20000 in
theorem T272_25 {B : zHp} (H : yH0 B) {e : Nat} (he : 9 ≤ e + 1) (F : Nat) : ∀ (f : Nat) {v1 : Int32} {v2 : Int32} {v3 : Int32} {lv : List (Nat × Value)} {m : xS} {x : Int32 × xS}, zld lv 0 = some (.ref 70) → zld lv 1 = some (.int v1) → zld lv 2 = some (.int v2) → zld lv 3 = some (.int v3) → D272_25 F f v1 v2 v3 m = some x → zR none e 4 (some .int) zc272 (25, lv, []) (xW B m) (some (.int x.1), xW B x.2) := by
  intro f
  induction f with
  | zero => intro v1 v2 v3 lv m x l0 l1 l2 l3 h; cases h
  | succ f ih =>
    intro v1 v2 v3 lv m x l0 l1 l2 l3 h
    unfold D272_25 at h
    refine q_li (k := 1) (i := 3) (q := (.iload_n 3, 1, 0, 0, .null)) rfl (fun _ => rfl) l3 ?_
    refine q_lr (k := 1) (i := 0) (q := (.aload_n 0, 1, 0, 0, .null)) rfl (fun _ => rfl) l0 ?_
    refine r_gr (c := 80) H (pc := 27) rfl (by decide) (by decide) ?_
    refine r_s (fr' := (31, lv, [.int 0, .ref 80, .int v3])) (hp' := xW B m) (q := (.iconst 0, 1, 0, 0, .null)) rfl (fun _ => rfl) (Nat.le_refl _) ?_
    refine q_al (n := 148) (v := (m.1 80 0)) H (pc := 31) rfl (by decide) (by decide) rfl ?_
    refine r_ifc (len := 3) (a := 60) (b := 0) (v0 := .null) (cn := .ge) (off := 28) rfl (fun c => ?_) (fun c => ?_)
    · rw [if_pos c] at h
      refine q_li (k := 1) (i := 2) (q := (.iload_n 2, 1, 0, 0, .null)) rfl (fun _ => rfl) l2 ?_
      obtain rfl := Option.some.inj h
      exact q_ri (q := (.ireturn, 1, 0, 0, .null)) rfl (fun _ => rfl) rfl rfl
    · rw [if_neg (by rw [c]; decide)] at h
      refine q_li (k := 1) (i := 2) (q := (.iload_n 2, 1, 0, 0, .null)) rfl (fun _ => rfl) l2 ?_
      refine q_lr (k := 1) (i := 0) (q := (.aload_n 0, 1, 0, 0, .null)) rfl (fun _ => rfl) l0 ?_
      refine q_li (k := 1) (i := 3) (q := (.iload_n 3, 1, 0, 0, .null)) rfl (fun _ => rfl) l3 ?_
      refine q_li (k := 1) (i := 1) (q := (.iload_n 1, 1, 0, 0, .null)) rfl (fun _ => rfl) l1 ?_
      obtain ⟨q39, h39, h⟩ := xbind h
      refine r_call (ix := 70) (as := [.int v3, .int v1]) (rest := [.int v2]) (rv := some (.int q39.1)) (hp' := xW B q39.2) (pc := 39) rfl xr271 rfl rfl rfl (xkd H (by decide)) (Nat.le_of_ble_eq_true rfl) (Z271 H h39 (by omega)) (Nat.le_refl _) ?_
      refine r_if (len := 3) (a := 51) (b := 0) (v0 := .null) (cn := .eq) (off := 9) rfl (fun c => ?_) (fun c => ?_)
      · rw [if_pos c] at h
        refine r_s (fr' := (52, lv, [.int 0, .int v2])) (hp' := xW B q39.2) (q := (.iconst 0, 1, 0, 0, .null)) rfl (fun _ => rfl) (Nat.le_refl _) ?_
        exact T272_52 H he F _ ih l0 l1 l2 l3 h
      · rw [if_neg (by rw [c]; decide)] at h
        refine r_s (fr' := (46, lv, [.int 1, .int v2])) (hp' := xW B q39.2) (q := (.iconst 1, 1, 0, 0, .null)) rfl (fun _ => rfl) (Nat.le_refl _) ?_
        refine q_li (k := 1) (i := 3) (q := (.iload_n 3, 1, 0, 0, .null)) rfl (fun _ => rfl) l3 ?_
        refine r_s (fr' := (48, lv, [.int (1 <<< (v3 &&& 31)), .int v2])) (hp' := xW B q39.2) (q := (.ishl, 1, 0, 0, .null)) rfl (fun _ => rfl) (Nat.le_refl _) ?_
        refine r_s (fr' := (52, lv, [.int (1 <<< (v3 &&& 31)), .int v2])) (hp' := xW B q39.2) (q := (.goto 4, 3, 52, 0, .null)) rfl (fun _ => rfl) (Nat.le_refl _) ?_
        exact T272_52 H he F _ ih l0 l1 l2 l3 h
def D272 (F : Nat) (v1 : Int32) (m : xS) : Option (Int32 × xS) :=
  (D204 F m).bind fun q1 =>
    if zcmp .eq q1.1 0 = true then
      D272_19 F v1 q1.2
    else
      (D158 F (v1 : Int32).toInt64 0 4 q1.2).bind fun q13 =>
        if zcmp .ne q13.1 0 = true then
          D272_25 F F v1 0 0 q13.2
        else
          D272_19 F v1 q13.2
set_option maxRecDepth 20000 in
theorem T272 {B : zHp} (H : yH0 B) {e : Nat} (he : 9 ≤ e + 1) (F : Nat) {v1 : Int32} {lv : List (Nat × Value)} {m : xS} {x : Int32 × xS} (l0 : zld lv 0 = some (.ref 70)) (l1 : zld lv 1 = some (.int v1)) (h : D272 F v1 m = some x) : zR none e 4 (some .int) zc272 (0, lv, []) (xW B m) (some (.int x.1), xW B x.2) := by
  unfold D272 at h
  refine q_lr (k := 1) (i := 0) (q := (.aload_n 0, 1, 0, 0, .null)) rfl (fun _ => rfl) l0 ?_
  obtain ⟨q1, h1, h⟩ := xbind h
  refine r_call (ix := 70) (as := []) (rest := []) (rv := some (.int q1.1)) (hp' := xW B q1.2) (pc := 1) rfl xr204 rfl rfl rfl (xkd H (by decide)) (Nat.le_of_ble_eq_true rfl) (Z204 H h1 (by omega)) (Nat.le_refl _) ?_
  refine r_if (len := 3) (a := 19) (b := 0) (v0 := .null) (cn := .eq) (off := 15) rfl (fun c => ?_) (fun c => ?_)
  · rw [if_pos c] at h
    exact T272_19 H he F l0 l1 h
  · rw [if_neg (by rw [c]; decide)] at h
    refine q_li (k := 1) (i := 1) (q := (.iload_n 1, 1, 0, 0, .null)) rfl (fun _ => rfl) l1 ?_
    refine r_s (fr' := (9, lv, [.long (v1 : Int32).toInt64])) (hp' := xW B q1.2) (q := (.i2l, 1, 0, 0, .null)) rfl (fun _ => rfl) (Nat.le_refl _) ?_
    refine r_s (fr' := (10, lv, [.long 0, .long (v1 : Int32).toInt64])) (hp' := xW B q1.2) (q := (.lconst 0, 1, 0, 0, .null)) rfl (fun _ => rfl) (Nat.le_refl _) ?_
    refine r_s (fr' := (13, lv, [.long 4, .long 0, .long (v1 : Int32).toInt64])) (hp' := xW B q1.2) (q := (.ldc2_w 463, 3, 0, 0, .long 4)) rfl (fun _ => rfl) (Nat.le_refl _) ?_
    obtain ⟨q13, h13, h⟩ := xbind h
    refine r_callS (as := [.long (v1 : Int32).toInt64, .long 0, .long 4]) (rest := []) (rv := some (.int q13.1)) (hp' := xW B q13.2) (pc := 13) rfl xr158 rfl rfl rfl (Nat.le_of_ble_eq_true rfl) (Z158 H h13 (by omega)) (Nat.le_refl _) ?_
    refine r_if (len := 3) (a := 21) (b := 0) (v0 := .null) (cn := .ne) (off := 5) rfl (fun c => ?_) (fun c => ?_)
    · rw [if_pos c] at h
      refine r_s (fr' := (22, lv, [.int 0])) (hp' := xW B q13.2) (q := (.iconst 0, 1, 0, 0, .null)) rfl (fun _ => rfl) (Nat.le_refl _) ?_
      refine q_si (k := 1) (i := 2) (q := (.istore_n 2, 1, 0, 0, .null)) rfl (fun _ => rfl) (by decide) ?_
      have l0_1 : zld (zs1 lv 2 (.int 0)) 0 = some (.ref 70) := x_o1 l0 rfl rfl
      have l1_1 : zld (zs1 lv 2 (.int 0)) 1 = some (.int v1) := x_o1 l1 rfl rfl
      have l2_1 : zld (zs1 lv 2 (.int 0)) 2 = some (.int 0) := zs1_ld _ _ _
      generalize (zs1 lv 2 (.int 0)) = lv1 at *
      refine r_s (fr' := (24, lv1, [.int 0])) (hp' := xW B q13.2) (q := (.iconst 0, 1, 0, 0, .null)) rfl (fun _ => rfl) (Nat.le_refl _) ?_
      refine q_si (k := 1) (i := 3) (q := (.istore_n 3, 1, 0, 0, .null)) rfl (fun _ => rfl) (by decide) ?_
      have l0_2 : zld (zs1 lv1 3 (.int 0)) 0 = some (.ref 70) := x_o1 l0_1 rfl rfl
      have l1_2 : zld (zs1 lv1 3 (.int 0)) 1 = some (.int v1) := x_o1 l1_1 rfl rfl
      have l2_2 : zld (zs1 lv1 3 (.int 0)) 2 = some (.int 0) := x_o1 l2_1 rfl rfl
      have l3_2 : zld (zs1 lv1 3 (.int 0)) 3 = some (.int 0) := zs1_ld _ _ _
      generalize (zs1 lv1 3 (.int 0)) = lv2 at *
      exact T272_25 H he F F l0_2 l1_2 l2_2 l3_2 h
    · rw [if_neg (by rw [c]; decide)] at h
      exact T272_19 H he F l0 l1 h
set_option maxRecDepth 20000 in
theorem Z272 {B : zHp} (H : yH0 B) {F : Nat} {a1 : Int32} {m : xS} {x : Int32 × xS} (h : D272 F a1 m = some x) {d : Nat} (hd : 9 ≤ d) : zCan d 272 [.ref 70, .int a1] (xW B m) (some (.int x.1), xW B x.2) := by
  obtain ⟨e, rfl⟩ : ∃ e, d = e + 1 := ⟨d - 1, by omega⟩
  refine zCan_body (nL := 4) (rt := (some .int)) (cd := zc272) (xg272) ⟨Nat.le_of_ble_eq_true rfl, by decide⟩ (Nat.le_refl _) ?_
  exact T272 H hd F rfl rfl h
end
section
/-! Chains of the reference: rows of houses by codes. -/
/-- a code is a chain -/
def chk (s : Nat → Int32) (t h N n c : Nat) : Bool := dgt N n c (n - 1) == h && (nodp 0 (dg N n c) && (!((dg N n c).any (· == (s (10 + 6 * t)).toInt.toNat)) && (!((dg N n c).any (· == (s (10 + 6 * t + 3)).toInt.toNat)) && trs s (s (10 + 6 * t + 3)).toInt.toNat (dg N n c))))
/-- lengths one behind the other: how long the first chain found is, its code -/
def cho (s : Nat → Int32) (t h N : Nat) (lg : Bool) : Nat → Nat → Option (Nat × Nat)
  | _, 0 => none
  | k, r + 1 => match (List.range (N ^ (if lg = true then N - k else k))).find? (chk s t h N (if lg = true then N - k else k)) with
    | some c => some (if lg = true then N - k else k, c)
    | none => cho s t h N lg (k + 1) r
def cvl (s : Nat → Int32) (t h : Nat) (lg : Bool) : Int32 := if s (10 + 6 * t + 3) = Int32.ofNat h then 0 else if s (10 + 6 * t) = Int32.ofNat h then -1 else match cho s t h (s 0).toInt.toNat lg 1 ((s 0).toInt.toNat - 1) with
  | some q => Int32.ofNat q.1
  | none => -1
/-- a chain's code alone may have changed -/
def kc (m m' : xS) : Prop := (∀ i j, ¬ (i = 70 ∧ j = 27) → m'.1 i j = m.1 i j) ∧ m'.2 = m.2
theorem kc_r (m : xS) : kc m m := ⟨fun _ _ _ => rfl, rfl⟩
theorem cho_i {s : Nat → Int32} {t h N : Nat} {lg : Bool} : ∀ {r k : Nat} {q : Nat × Nat}, cho s t h N lg k r = some q → k + r = N → 1 ≤ k → (1 ≤ q.1 ∧ q.1 < N) ∧ q.2 < N ^ q.1 ∧ chk s t h N q.1 q.2 = true
  | 0, _, _, h, _, _ => by cases h
  | r + 1, k, q, e, hk, k1 => by
    have e : (match (List.range (N ^ (if lg = true then N - k else k))).find? (chk s t h N (if lg = true then N - k else k)) with
      | some c => some (if lg = true then N - k else k, c)
      | none => cho s t h N lg (k + 1) r) = some q := e
    split at e
    · next c hc =>
      cases e
      have b := List.mem_range.mp (List.mem_of_find?_eq_some hc)
      refine ⟨?_, b, List.find?_some hc⟩
      show 1 ≤ (if lg = true then N - k else k) ∧ (if lg = true then N - k else k) < N
      split <;> omega
    · exact cho_i e (by omega) (by omega)
section PCHN
variable {m : xS} {F : Nat}
theorem r249 {t h N n c : Nat} (hF : 500 ≤ F) (I : vI (m.1 80)) (ht : (t : Int) < (m.1 80 2).toInt) (e0 : m.1 80 0 = Int32.ofNat N) (N1 : 1 ≤ N) (hN : N ≤ 6) (hh : h < N) (n1 : 1 ≤ n) (hn : n ≤ 6) (hc : c < 2147483648) : D249 F (Int32.ofNat t) (Int32.ofNat h) (Int32.ofNat c) (Int32.ofNat n) m = some (pB (chk (m.1 80) t h N n c), m) := by
  have t6 : t < 6 := by have := I_nt I; omega
  have it := I.2.1 t ht
  have n6 := I_n6 I
  have eo : m.1 80 (10 + 6 * t) = Int32.ofNat (m.1 80 (10 + 6 * t)).toInt.toNat := i32n (by omega)
  have eh : m.1 80 (10 + 6 * t + 3) = Int32.ofNat (m.1 80 (10 + 6 * t + 3)).toInt.toNat := i32n (by omega)
  have dl := dgt_lt (n := n) (c := c) (k := n - 1) N1
  have c1 : zcmp .ne (Int32.ofNat (dgt N n c (n - 1))) (Int32.ofNat h) = !(dgt N n c (n - 1) == h) := by
    rw [zcn]
    congr 1
    by_cases z : dgt N n c (n - 1) = h
    · rw [z]
      simp
    · rw [beq_eq_false_iff_ne.mpr z]
      exact beq_eq_false_iff_ne.mpr (fun y => z (by
        have y := congrArg Int32.toInt y
        rw [nJ (by omega), nJ (by omega)] at y
        omega))
  unfold D249
  refine ob (r236 (k := n - 1) (by omega) rfl rfl ((o1 (n := n - 1) (by omega)).2.1 ▸ by rw [show n - 1 + 1 = n by omega]) e0 N1 hN (by omega) hn hc) ?_
  unfold chk
  by_cases a1 : (dgt N n c (n - 1) == h) = true
  · rw [a1, Bool.true_and]
    refine oF (c1.trans (by rw [a1]; rfl)) (ob (r237 (by omega) rfl rfl e0 N1 hN hn hc) ?_)
    by_cases a2 : nodp 0 (dg N n c) = true
    · rw [a2, Bool.true_and]
      refine oT (znT rfl) (ob (r208 (w := 0) rfl rfl t6 (by decide)) (ob (r238 (by omega) rfl rfl eo e0 N1 hN hn hc (by omega)) ?_))
      by_cases a3 : ((dg N n c).any (· == (m.1 80 (10 + 6 * t)).toInt.toNat)) = true
      · rw [a3]
        exact oT (znT rfl) rfl
      · rw [bF a3, Bool.not_false, Bool.true_and]
        refine oF (znF rfl) (ob (r208 (w := 3) rfl rfl t6 (by decide)) (ob (r238 (by omega) rfl rfl eh e0 N1 hN hn hc (by omega)) ?_))
        by_cases a4 : ((dg N n c).any (· == (m.1 80 (10 + 6 * t + 3)).toInt.toNat)) = true
        · rw [a4]
          exact oF (zeF rfl) rfl
        · rw [bF a4, Bool.not_false, Bool.true_and]
          refine oT (zeT rfl) (ob (r208 (w := 3) rfl rfl t6 (by decide)) (ob (r239 (by omega) eh rfl rfl e0 N1 hN hn hc (by omega)) ?_))
          generalize trs (m.1 80) (m.1 80 (10 + 6 * t + 3)).toInt.toNat (dg N n c) = b
          cases b <;> rfl
    · rw [bF a2, Bool.false_and]
      exact oF (znF rfl) rfl
  · rw [bF a1, Bool.false_and]
    exact oT (c1.trans (by rw [bF a1]; rfl)) rfl
theorem r250_3 {t h N n : Nat} (hF : 500 ≤ F) (I : vI (m.1 80)) (ht : (t : Int) < (m.1 80 2).toInt) (e0 : m.1 80 0 = Int32.ofNat N) (N1 : 1 ≤ N) (hN : N ≤ 6) (hh : h < N) (n1 : 1 ≤ n) (hn : n ≤ 6) : ∀ (f : Nat) {c : Nat}, c ≤ N ^ n → N ^ n - c < f → D250_3 F f (Int32.ofNat t) (Int32.ofNat h) (Int32.ofNat n) (Int32.ofNat c) m = match (List.range' c (N ^ n - c)).find? (chk (m.1 80) t h N n) with
    | some c => some (1, xu m 70 27 (Int32.ofNat c))
    | none => some (0, m) := by
  have b := p6b (N := N) (k := n) (by omega) hn
  intro f
  induction f with
  | zero => intro c _ l; omega
  | succ f ih =>
    intro c hc l
    have ec := xI (a := c) (by omega)
    have en := xI (a := N ^ n) (by omega)
    unfold D250_3
    refine ob (r235 (by omega) e0 rfl N1 (by omega) hn) ?_
    by_cases q : N ^ n ≤ c
    · rw [show N ^ n - c = 0 by omega]
      exact oT (zc.trans (decide_eq_true (by show (Int32.ofNat (N ^ n)).toInt ≤ _; omega))) rfl
    · rw [show N ^ n - c = (N ^ n - (c + 1)) + 1 by omega, List.range'_succ, List.find?_cons]
      refine oF (zc.trans (decide_eq_false (by show ¬ (Int32.ofNat (N ^ n)).toInt ≤ _; omega))) (ob (r249 hF I ht e0 N1 hN hh n1 hn (by omega)) ?_)
      cases z : chk (m.1 80) t h N n c with
      | true => exact oT (znT rfl) rfl
      | false =>
        refine oF (znF rfl) ?_
        rw [show Int32.ofNat c + Int32.ofInt 1 = Int32.ofNat (c + 1) from xadd (a := c) (b := 1) (by omega)]
        exact ih (by omega) (by omega)
theorem r250 {t h N n : Nat} (hF : 120000 ≤ F) (I : vI (m.1 80)) (ht : (t : Int) < (m.1 80 2).toInt) (e0 : m.1 80 0 = Int32.ofNat N) (N1 : 1 ≤ N) (hN : N ≤ 6) (hh : h < N) (n1 : 1 ≤ n) (hn : n ≤ 6) : D250 F (Int32.ofNat t) (Int32.ofNat h) (Int32.ofNat n) m = match (List.range (N ^ n)).find? (chk (m.1 80) t h N n) with
    | some c => some (1, xu m 70 27 (Int32.ofNat c))
    | none => some (0, m) := by
  have b := p6b (N := N) (k := n) (by omega) hn
  have z := r250_3 (F := F) (by omega) I ht e0 N1 hN hh n1 hn F (c := 0) (by omega) (by omega)
  rw [Nat.sub_zero, ← List.range_eq_range'] at z
  unfold D250
  exact z
theorem r251_37 {t h N : Nat} {lg : Bool} {v3 : Int32} (hv : zcmp .eq v3 0 = !lg) (hF : 120000 ≤ F) (I : vI (m.1 80)) (ht : (t : Int) < (m.1 80 2).toInt) (e0 : m.1 80 0 = Int32.ofNat N) (N1 : 1 ≤ N) (hN : N ≤ 6) (hh : h < N) : ∀ (f : Nat) {k : Nat}, 1 ≤ k → k ≤ N → N - k < f → D251_37 F f (Int32.ofNat t) (Int32.ofNat h) v3 (Int32.ofNat (N - 1)) (Int32.ofNat k) m = match cho (m.1 80) t h N lg k (N - k) with
    | some q => some (Int32.ofNat q.1, xu m 70 27 (Int32.ofNat q.2))
    | none => some (-1, m) := by
  intro f
  induction f with
  | zero => intro k _ _ l; omega
  | succ f ih =>
    intro k k1 hk l
    have ek := nJ (n := k) (by omega)
    have eN := nJ (n := N - 1) (by omega)
    unfold D251_37
    by_cases q : N ≤ k
    · rw [show N - k = 0 by omega]
      exact oT (zcgt.trans (decide_eq_true (by omega))) rfl
    · rw [show N - k = (N - (k + 1)) + 1 by omega]
      have g : zcmp .gt (Int32.ofNat k) (Int32.ofNat (N - 1)) = false := zcgt.trans (decide_eq_false (by omega))
      have nx : ∀ {n : Nat}, (if lg = true then N - k else k) = n → D251_60 F (D251_37 F f) (Int32.ofNat t) (Int32.ofNat h) v3 (Int32.ofNat (N - 1)) (Int32.ofNat k) (Int32.ofNat n) m = match cho (m.1 80) t h N lg k ((N - (k + 1)) + 1) with
        | some q => some (Int32.ofNat q.1, xu m 70 27 (Int32.ofNat q.2))
        | none => some (-1, m) := fun {n} e => by
        have n1 : 1 ≤ n ∧ n ≤ 6 := by
          rw [← e]
          split <;> omega
        have z := r250 (F := F) hF I ht e0 N1 hN hh n1.1 n1.2
        unfold D251_60
        show _ = match (match (List.range (N ^ (if lg = true then N - k else k))).find? (chk (m.1 80) t h N (if lg = true then N - k else k)) with
          | some c => some (if lg = true then N - k else k, c)
          | none => cho (m.1 80) t h N lg (k + 1) (N - (k + 1))) with
          | some q => some (Int32.ofNat q.1, xu m 70 27 (Int32.ofNat q.2))
          | none => some (-1, m)
        rw [e]
        cases y : (List.range (N ^ n)).find? (chk (m.1 80) t h N n) with
        | some c =>
          rw [y] at z
          exact ob z (oF (show zcmp .eq (1 : Int32) 0 = false by decide) rfl)
        | none =>
          rw [y] at z
          refine ob z (oT (show zcmp .eq (0 : Int32) 0 = true by decide) ?_)
          rw [show Int32.ofNat k + Int32.ofInt 1 = Int32.ofNat (k + 1) from xadd (a := k) (b := 1) (by omega)]
          exact ih (by omega) (by omega) (by omega)
      cases lg with
      | false => exact oF g (oT hv (nx rfl))
      | true =>
        refine oF g (oF hv ?_)
        rw [show (Int32.ofNat (N - 1) + 1) - Int32.ofNat k = Int32.ofNat (N - k) from by
          rw [show Int32.ofNat (N - 1) + 1 = Int32.ofNat N from (xadd (a := N - 1) (b := 1) (by omega)).trans (by rw [show N - 1 + 1 = N by omega])]
          exact xsub (by omega) (by omega)]
        exact nx rfl
/-- chainOf -/
theorem r251 {t h : Nat} {lg : Bool} {v3 : Int32} (hv : zcmp .eq v3 0 = !lg) (hF : 120000 ≤ F) (I : vI (m.1 80)) (ht : (t : Int) < (m.1 80 2).toInt) (hh : (h : Int) < (m.1 80 0).toInt) : ∃ m', D251 F (Int32.ofNat t) (Int32.ofNat h) v3 m = some (cvl (m.1 80) t h lg, m') ∧ kc m m' ∧ (¬ m.1 80 (10 + 6 * t + 3) = Int32.ofNat h → ¬ m.1 80 (10 + 6 * t) = Int32.ofNat h → ∀ q, cho (m.1 80) t h (m.1 80 0).toInt.toNat lg 1 ((m.1 80 0).toInt.toNat - 1) = some q → m'.1 70 27 = Int32.ofNat q.2) := by
  have t6 : t < 6 := by have := I_nt I; omega
  have n6 := I_n6 I
  have n0 := I_n0 I
  have e0 : m.1 80 0 = Int32.ofNat (m.1 80 0).toInt.toNat := i32n (by omega)
  unfold D251 cvl
  by_cases a : m.1 80 (10 + 6 * t + 3) = Int32.ofNat h
  · rw [if_pos a]
    exact ⟨m, ob (r208 (w := 3) rfl rfl t6 (by decide)) (oF (by rw [zcn]; show (!(m.1 80 (10 + 6 * t + 3) == Int32.ofNat h)) = false; rw [a, beq_self_eq_true]; rfl) rfl), kc_r m, fun z => absurd a z⟩
  rw [if_neg a]
  have fa : zcmp .ne (m.1 80 (10 + 6 * t + 3)) (Int32.ofNat h) = true := by
    rw [zcn, beq_eq_false_iff_ne.mpr a]
    rfl
  by_cases b : m.1 80 (10 + 6 * t) = Int32.ofNat h
  · rw [if_pos b]
    exact ⟨m, ob (r208 (w := 3) rfl rfl t6 (by decide)) (oT fa (ob (r208 (w := 0) rfl rfl t6 (by decide)) (oF (by rw [zcn]; show (!(m.1 80 (10 + 6 * t) == Int32.ofNat h)) = false; rw [b, beq_self_eq_true]; rfl) rfl))), kc_r m, fun _ z => absurd b z⟩
  rw [if_neg b]
  have fb : zcmp .ne (m.1 80 (10 + 6 * t)) (Int32.ofNat h) = true := by
    rw [zcn, beq_eq_false_iff_ne.mpr b]
    rfl
  have z := r251_37 (F := F) hv hF I ht e0 (by omega) (by omega) (h := h) (by omega) F (k := 1) (Nat.le_refl _) (by omega) (by omega)
  have em : m.1 80 0 - 1 = Int32.ofNat ((m.1 80 0).toInt.toNat - 1) := by
    have y := xsub (a := (m.1 80 0).toInt.toNat) (b := 1) (by omega) (by omega)
    rw [← e0] at y
    exact y
  cases y : cho (m.1 80) t h (m.1 80 0).toInt.toNat lg 1 ((m.1 80 0).toInt.toNat - 1) with
  | some q =>
    rw [y] at z
    refine ⟨_, ob (r208 (w := 3) rfl rfl t6 (by decide)) (oT fa (ob (r208 (w := 0) rfl rfl t6 (by decide)) (oT fb ?_))), ⟨fun i j k => xu_o k, rfl⟩, fun _ _ q' e => by cases e; exact xu_s _ _ _ _⟩
    show D251_37 F F (Int32.ofNat t) (Int32.ofNat h) v3 (m.1 80 0 - 1) 1 m = _
    rw [em]
    exact z
  | none =>
    rw [y] at z
    refine ⟨_, ob (r208 (w := 3) rfl rfl t6 (by decide)) (oT fa (ob (r208 (w := 0) rfl rfl t6 (by decide)) (oT fb ?_))), kc_r m, fun _ _ q' e => by cases e⟩
    show D251_37 F F (Int32.ofNat t) (Int32.ofNat h) v3 (m.1 80 0 - 1) 1 m = _
    rw [em]
    exact z
end PCHN
end
section
/-! Matchings of the reference: they come to an end, and what they may change. -/
def kmt (m m' : xS) : Prop := (∀ i j, i ≠ 82 → i ≠ 83 → ¬ (i = 70 ∧ (j = 27 ∨ j = 30)) → m'.1 i j = m.1 i j) ∧ m'.2 = m.2
theorem kmt_r (m : xS) : kmt m m := ⟨fun _ _ _ _ _ => rfl, rfl⟩
theorem kmt_t {a b c : xS} (h1 : kmt a b) (h2 : kmt b c) : kmt a c := ⟨fun i j e1 e2 e3 => (h2.1 i j e1 e2 e3).trans (h1.1 i j e1 e2 e3), h2.2.trans h1.2⟩
theorem kmt_c {a b : xS} (h : kc a b) : kmt a b := ⟨fun i j _ _ e => h.1 i j (fun y => e ⟨y.1, Or.inl y.2⟩), h.2⟩
theorem kmt_u {m : xS} {i j : Nat} {v : Int32} (h : i = 82 ∨ i = 83 ∨ (i = 70 ∧ (j = 27 ∨ j = 30))) : kmt m (xu m i j v) := ⟨fun a b e1 e2 e3 => xu_o (fun y => by
  rcases h with z | z | z
  · omega
  · omega
  · exact e3 ⟨by omega, by omega⟩), rfl⟩
theorem kmt_80 {a b : xS} {s : Nat → Int32} (h : kmt a b) (e : a.1 80 = s) : b.1 80 = s := (funext fun j => h.1 80 j (by decide) (by decide) (fun y => absurd y.1 (by decide))).trans e
section PMTC
variable {s : Nat → Int32} {m : xS} {F : Nat}
theorem d159 {a b : Int32} : ∃ v, D159 F a b m = some (v, m) := by
  unfold D159
  split <;> exact ⟨_, rfl⟩
theorem i6w {t w : Nat} (ht : t < 7) (hw : w < 7) : (6 * Int32.ofNat t + Int32.ofNat w).toInt = ((6 * t + w : Nat) : Int) := by
  have e1 : ((6 : Int32) * Int32.ofNat t).toInt = ((6 * t : Nat) : Int) := (xm1 (by show _ ≤ (6 : Int) * _; rw [nJ (by omega)]; omega) (by show (6 : Int) * _ ≤ _; rw [nJ (by omega)]; omega)).trans (by rw [nJ (by omega)]; show (6 : Int) * _ = _; omega)
  exact ixp e1 (nJ (by omega)) (by omega)
theorem P253_14 (hF : 120000 ≤ F) (I : vI s) {t : Nat} (ht : (t : Int) < (s 2).toInt) {v1 : Int32} {g2 : Int32 → Int32 → xS → Option (Unit × xS)} {Q : Unit → xS → Prop} {m0 : xS} (K : ∀ m', m'.1 80 = s → kmt m0 m' → xP (g2 v1 (Int32.ofNat (t + 1)) m') Q) : ∀ (f : Nat) {m : xS} {w : Nat}, m.1 80 = s → kmt m0 m → (w : Int) ≤ (s 3).toInt → 7 - w < f → xP (D253_14 F g2 f v1 (Int32.ofNat t) (Int32.ofNat w) m) Q := by
  have n3 := I_nw I
  have n6 := I_n6 I
  have t6 : t < 6 := by have := I_nt I; omega
  intro f
  induction f with
  | zero => intro m w _ _ _ l; omega
  | succ f ih =>
    intro m w es k hw l
    have ew := nJ (n := w) (by omega)
    unfold D253_14
    rw [es]
    refine xP_i (fun _ => ?_) (fun c => ?_)
    · rw [(o1 (n := t) (by omega)).2.2]
      exact K m es k
    · have c : ¬ (s 3).toInt ≤ (Int32.ofNat w).toInt := of_decide_eq_false (zc.symm.trans c)
      have w3 : (w : Int) < (s 3).toInt := by omega
      have w6 : w < 6 := by omega
      have iw := I.2.2.1 w w3
      have ix := i6w (t := t) (w := w) (by omega) (by omega)
      have p118 : ∀ {m1 : xS} {v4 v5 w0 : Int32}, m1.1 80 = s → kmt m0 m1 → xP (D253_118 F g2 (D253_14 F g2 f) v1 (Int32.ofNat t) (Int32.ofNat w) v4 v5 w0 (6 * Int32.ofNat t + Int32.ofNat w) m1) Q := fun {m1 v4 v5 w0} e1 k1 => by
        unfold D253_118
        refine xP_g (gxb ix (by omega)) ?_
        rw [(o1 (n := w) (by omega)).2.2]
        exact ih ((xu_row (by decide)).trans e1) (kmt_t k1 (kmt_u (Or.inl rfl))) (by omega) (by omega)
      have p117 : ∀ {m1 : xS} {v4 v5 : Int32}, m1.1 80 = s → kmt m0 m1 → xP (D253_117 F g2 (D253_14 F g2 f) v1 (Int32.ofNat t) (Int32.ofNat w) v4 v5 (6 * Int32.ofNat t + Int32.ofNat w) m1) Q := fun {m1 v4 v5} e1 k1 => by
        unfold D253_117
        exact p118 e1 k1
      have p80 : ∀ {m1 : xS} {v4 w0 : Int32}, m1.1 80 = s → kmt m0 m1 → xP (D253_80 F g2 (D253_14 F g2 f) v1 (Int32.ofNat t) (Int32.ofNat w) v4 w0 m1) Q := fun {m1 v4 w0} e1 k1 => by
        unfold D253_80
        refine xP_i (fun _ => p117 e1 k1) (fun _ => ?_)
        refine xP_bp (r214 rfl t6) (xP_bp (r209 (k := 2) rfl rfl w6 (by decide)) (xP_i (fun _ => p117 e1 k1) (fun _ => p118 e1 k1)))
      have p57 : ∀ {m1 : xS} {w0 : Int32}, m1.1 80 = s → kmt m0 m1 → xP (D253_57 F g2 (D253_14 F g2 f) v1 (Int32.ofNat t) (Int32.ofNat w) w0 m1) Q := fun {m1 w0} e1 k1 => by
        unfold D253_57
        refine xP_i (fun _ => p80 e1 k1) (fun _ => xP_bp (r209 (k := 0) rfl rfl w6 (by decide)) ?_)
        have ep : m1.1 80 (124 + 4 * w + 0) = Int32.ofNat (s (124 + 4 * w)).toInt.toNat := by
          show m1.1 80 (124 + 4 * w) = _
          rw [e1]
          exact i32n (by omega)
        dsimp only
        rw [ep]
        obtain ⟨m2, z1, z2, -⟩ := r251 (F := F) (m := m1) (lg := true) (v3 := 1) (by decide) hF (by rw [e1]; exact I) (t := t) (h := (s (124 + 4 * w)).toInt.toNat) (by rw [e1]; exact ht) (by rw [e1]; omega)
        exact xP_bp z1 (p80 (kmt_80 (kmt_c z2) e1) (kmt_t k1 (kmt_c z2)))
      have p56 : ∀ {m1 : xS}, m1.1 80 = s → kmt m0 m1 → xP (D253_56 F g2 (D253_14 F g2 f) v1 (Int32.ofNat t) (Int32.ofNat w) m1) Q := fun {m1} e1 k1 => by
        unfold D253_56
        exact p57 e1 k1
      refine xP_i (fun _ => p56 es k) (fun _ => xP_bp (r215 rfl w6) (xP_i (fun _ => p56 es k) (fun _ => xP_bp (r208 (w := 1) rfl rfl t6 (by decide)) (xP_bp (r209 (k := 1) rfl rfl w6 (by decide)) (xP_i (fun _ => p56 es k) (fun _ => p57 es k))))))
theorem P253_2 (hF : 120000 ≤ F) (I : vI s) {v1 : Int32} {m0 : xS} : ∀ (f : Nat) {m : xS} {t : Nat}, m.1 80 = s → kmt m0 m → (t : Int) ≤ (s 2).toInt → 7 - t < f → xP (D253_2 F f v1 (Int32.ofNat t) m) (fun _ m' => kmt m0 m') := by
  have n2 := I_nt I
  have n3 := I_nw I
  intro f
  induction f with
  | zero => intro m t _ _ _ l; omega
  | succ f ih =>
    intro m t es k ht l
    have et := nJ (n := t) (by omega)
    unfold D253_2
    rw [es]
    refine xP_i (fun _ => xP_r k) (fun c => ?_)
    have c : ¬ (s 2).toInt ≤ (Int32.ofNat t).toInt := of_decide_eq_false (zc.symm.trans c)
    exact P253_14 hF I (by omega) (fun m' e1 k1 => ih e1 k1 (by omega) (by omega)) F (w := 0) es k (by omega) (by omega)
theorem P253 (hF : 120000 ≤ F) (I : vI s) {v1 : Int32} (es : m.1 80 = s) : xP (D253 F v1 m) (fun _ m' => kmt m m') := by
  have n2 := I_nt I
  unfold D253
  exact P253_2 hF I F (t := 0) es (kmt_r m) (by omega) (by omega)
/-- toolIn -/
theorem r254 (hF : 500 ≤ F) (I : vI (m.1 80)) {c w : Nat} (hw : (w : Int) < (m.1 80 3).toInt) (hc : c < 2147483648) : D254 F (Int32.ofNat c) (Int32.ofNat w) m = some (Int32.ofNat (dgt ((m.1 80 2).toInt.toNat + 1) (m.1 80 3).toInt.toNat c w) - 1, m) := by
  have n2 := I_nt I
  have n3 := I_nw I
  have e2 : m.1 80 2 = Int32.ofNat (m.1 80 2).toInt.toNat := i32n (by omega)
  have e3 : m.1 80 3 = Int32.ofNat (m.1 80 3).toInt.toNat := i32n (by omega)
  generalize hT : (m.1 80 2).toInt.toNat = T at e2 ⊢
  generalize hW : (m.1 80 3).toInt.toNat = W at e3 ⊢
  have eT : m.1 80 2 + 1 = Int32.ofNat (T + 1) := by
    rw [e2]
    exact xadd (a := T) (b := 1) (by omega)
  have eW : m.1 80 3 - 1 - Int32.ofNat w = Int32.ofNat (W - 1 - w) := by
    rw [e3, show Int32.ofNat W - 1 = Int32.ofNat (W - 1) from xsub (a := W) (b := 1) (by omega) (by omega)]
    exact xsub (by omega) (by omega)
  have b := p6b (N := T + 1) (k := W - 1 - w) (by omega) (by omega)
  have p : 0 < (T + 1) ^ (W - 1 - w) := Nat.pow_pos (by omega)
  unfold D254
  rw [eT, eW]
  refine ob (r235 (by omega) rfl rfl (by omega) (by omega) (by omega)) ?_
  dsimp only
  rw [eT]
  refine oT (n0b p (by omega)) (oT (n0b (by omega) (by omega)) ?_)
  have l := Nat.div_le_self c ((T + 1) ^ (W - 1 - w))
  rw [i32dv hc (by omega) p, i32md (by omega) (by omega) (by omega)]
  rfl
theorem P255_7 (hF : 500 ≤ F) (I : vI (m.1 80)) {c : Nat} (hc : c < 2147483648) : ∀ (f : Nat) {w : Nat} {v2 v3 : Int32}, (w : Int) ≤ (m.1 80 3).toInt → 7 - w < f → xP (D255_7 F f (Int32.ofNat c) v2 v3 (Int32.ofNat w) m) (fun _ m' => m' = m) := by
  have n2 := I_nt I
  have n3 := I_nw I
  intro f
  induction f with
  | zero => intro w v2 v3 _ l; omega
  | succ f ih =>
    intro w v2 v3 hw l
    have ew := nJ (n := w) (by omega)
    unfold D255_7
    refine xP_i (fun _ => xP_r rfl) (fun cc => ?_)
    have cc : ¬ (m.1 80 3).toInt ≤ (Int32.ofNat w).toInt := of_decide_eq_false (zc.symm.trans cc)
    have w3 : (w : Int) < (m.1 80 3).toInt := by omega
    have w6 : w < 6 := by omega
    have dl := dgt_lt (N := (m.1 80 2).toInt.toNat + 1) (n := (m.1 80 3).toInt.toNat) (c := c) (k := w) (by omega)
    generalize hd : dgt ((m.1 80 2).toInt.toNat + 1) (m.1 80 3).toInt.toNat c w = d at dl
    have z := r254 (F := F) hF I w3 hc
    rw [hd] at z
    have nx : ∀ {v2' v3' v5 : Int32}, xP (D255_79 F (D255_7 F f) (Int32.ofNat c) v2' v3' (Int32.ofNat w) v5 m) (fun _ m' => m' = m) := fun {v2' v3' v5} => by
      unfold D255_79
      rw [(o1 (n := w) (by omega)).2.2]
      exact ih (by omega) (by omega)
    refine xP_bp z (xP_i (fun a => ?_) (fun _ => nx))
    have ed := nJ (n := d) (by omega)
    have l1 : (1 : Int32).toInt = 1 := rfl
    have l0 : (0 : Int32).toInt = 0 := rfl
    have em : (Int32.ofNat d - 1).toInt = (d : Int) - 1 := (xs1 (by rw [l1]; omega) (by rw [l1]; omega)).trans (by rw [ed, l1])
    have a : (0 : Int32).toInt ≤ (Int32.ofNat d - 1).toInt := of_decide_eq_true (zc.symm.trans a)
    have e1 : Int32.ofNat d - 1 = Int32.ofNat (d - 1) := xsub (a := d) (b := 1) (by omega) (by omega)
    dsimp only
    rw [e1]
    have ix := i6w (t := d - 1) (w := w) (by omega) (by omega)
    refine xP_g (gxb ix (by omega)) (xP_i (fun _ => ?_) (fun _ => ?_))
    · unfold D255_60
      exact xP_r rfl
    · obtain ⟨v, y⟩ := d159 (F := F) (m := m) (a := v2) (b := Int32.ofNat (d - 1))
      refine xP_bp y (xP_i (fun _ => xP_bp (r209 (k := 3) rfl rfl w6 (by decide)) nx) (fun _ => ?_))
      unfold D255_60
      exact xP_r rfl
theorem P255 (hF : 500 ≤ F) (I : vI (m.1 80)) {c : Nat} (hc : c < 2147483648) : xP (D255 F (Int32.ofNat c) m) (fun _ m' => m' = m) := by
  have n3 := I_nw I
  unfold D255
  exact P255_7 hF I hc F (w := 0) (by omega) (by omega)
theorem P256_70 (hF : 500 ≤ F) (I : vI s) {c : Nat} (hc : c < 2147483648) {v1 : Int32} {m0 : xS} : ∀ (f : Nat) {m : xS} {w : Nat}, m.1 80 = s → kmt m0 m → (w : Int) ≤ (s 3).toInt → 7 - w < f → xP (D256_70 F f v1 (Int32.ofNat c) (Int32.ofNat w) m) (fun _ m' => kmt m0 m') := by
  have n3 := I_nw I
  intro f
  induction f with
  | zero => intro m w _ _ _ l; omega
  | succ f ih =>
    intro m w es k hw l
    have ew := nJ (n := w) (by omega)
    unfold D256_70
    rw [es]
    refine xP_i (fun _ => xP_r k) (fun cc => ?_)
    have cc : ¬ (s 3).toInt ≤ (Int32.ofNat w).toInt := of_decide_eq_false (zc.symm.trans cc)
    refine xP_bp (r254 hF (by rw [es]; exact I) (by rw [es]; omega) hc) (xP_g (gxb ew (by omega)) ?_)
    rw [(o1 (n := w) (by omega)).2.2]
    exact ih ((xu_row (by decide)).trans es) (kmt_t k (kmt_u (Or.inr (Or.inl rfl)))) (by omega) (by omega)
theorem P256_14 (hF : 120000 ≤ F) (I : vI s) {v1 : Int32} {m0 : xS} : ∀ (f : Nat) {m : xS} {c b : Nat}, m.1 80 = s → kmt m0 m → c ≤ ((s 2).toInt.toNat + 1) ^ (s 3).toInt.toNat → b < 2147483648 → ((s 2).toInt.toNat + 1) ^ (s 3).toInt.toNat - c < f → xP (D256_14 F f v1 (Int32.ofNat b) (Int32.ofNat c) m) (fun _ m' => kmt m0 m') := by
  have n2 := I_nt I
  have n3 := I_nw I
  have bb := p6b (N := (s 2).toInt.toNat + 1) (k := (s 3).toInt.toNat) (by omega) (by omega)
  have e2 : s 2 = Int32.ofNat (s 2).toInt.toNat := i32n (by omega)
  have e3 : s 3 = Int32.ofNat (s 3).toInt.toNat := i32n (by omega)
  have eT : s 2 + 1 = Int32.ofNat ((s 2).toInt.toNat + 1) := by
    have y := xadd (a := (s 2).toInt.toNat) (b := 1) (by omega)
    rw [← e2] at y
    exact y
  intro f
  induction f with
  | zero => intro m c b _ _ _ _ l; omega
  | succ f ih =>
    intro m c b es k hc hb l
    have ec := xI (a := c) (by omega)
    unfold D256_14
    rw [es, eT]
    refine xP_bp (r235 (by omega) rfl e3 (by omega) (by omega) (by omega)) (xP_i (fun _ => ?_) (fun cc => ?_))
    · exact P256_70 (by omega) I hb F (w := 0) es k (by omega) (by omega)
    · have cc : ¬ (Int32.ofNat (((s 2).toInt.toNat + 1) ^ (s 3).toInt.toNat)).toInt ≤ (Int32.ofNat c).toInt := of_decide_eq_false (zc.symm.trans cc)
      rw [xI (by omega), ec] at cc
      refine xP_b (P255 (by omega) (by rw [es]; exact I) (by omega)) (fun v m1 q => ?_)
      subst q
      have nx : ∀ {b' : Nat} {v4 : Int32} {m2 : xS}, b' < 2147483648 → m2.1 80 = s → kmt m0 m2 → xP (D256_62 F (D256_14 F f) v1 (Int32.ofNat b') (Int32.ofNat c) v4 m2) (fun _ m' => kmt m0 m') := fun {b' v4 m2} h1 h2 h3 => by
        unfold D256_62
        rw [show Int32.ofNat c + Int32.ofInt 1 = Int32.ofNat (c + 1) from xadd (a := c) (b := 1) (by omega)]
        exact ih h2 h3 (by omega) h1 (by omega)
      exact xP_i (fun _ => nx (by omega) ((xu_row (by decide)).trans es) (kmt_t k (kmt_u (Or.inr (Or.inr ⟨rfl, Or.inr rfl⟩))))) (fun _ => nx hb es k)
/-- matches -/
theorem P256 (hF : 120000 ≤ F) (I : vI s) {v1 : Int32} (es : m.1 80 = s) : xP (D256 F v1 m) (fun _ m' => kmt m m') := by
  have n2 := I_nt I
  have n3 := I_nw I
  have bb := p6b (N := (s 2).toInt.toNat + 1) (k := (s 3).toInt.toNat) (by omega) (by omega)
  unfold D256
  refine xP_b (P253 hF I es) (fun _ m1 k1 => ?_)
  have k2 : kmt m (xu m1 70 30 (-1)) := kmt_t k1 (kmt_u (Or.inr (Or.inr ⟨rfl, Or.inr rfl⟩)))
  exact P256_14 hF I F (c := 0) (b := 0) (kmt_80 k2 es) k2 (by omega) (by omega) (by omega)
/-- getsOne -/
theorem P270_2 (hF : 120000 ≤ F) (I : vI s) {h : Nat} (hh : (h : Int) < (s 0).toInt) {v2 : Int32} {m0 : xS} : ∀ (f : Nat) {m : xS} {t : Nat}, m.1 80 = s → kmt m0 m → (t : Int) ≤ (s 2).toInt → 7 - t < f → xP (D270_2 F f (Int32.ofNat h) v2 (Int32.ofNat t) m) (fun _ m' => kmt m0 m') := by
  have n2 := I_nt I
  intro f
  induction f with
  | zero => intro m t _ _ _ l; omega
  | succ f ih =>
    intro m t es k ht l
    have et := nJ (n := t) (by omega)
    unfold D270_2
    rw [es]
    refine xP_i (fun _ => xP_r k) (fun cc => ?_)
    have cc : ¬ (s 2).toInt ≤ (Int32.ofNat t).toInt := of_decide_eq_false (zc.symm.trans cc)
    have t6 : t < 6 := by omega
    have nx : ∀ {m2 : xS}, m2.1 80 = s → kmt m0 m2 → xP (D270_44 F (D270_2 F f) (Int32.ofNat h) v2 (Int32.ofNat t) m2) (fun _ m' => kmt m0 m') := fun {m2} h2 h3 => by
      unfold D270_44
      rw [(o1 (n := t) (by omega)).2.2]
      exact ih h2 h3 (by omega) (by omega)
    refine xP_bp (r208 (w := 1) rfl rfl t6 (by decide)) (xP_i (fun _ => nx es k) (fun _ => xP_bp (r208 (w := 0) rfl rfl t6 (by decide)) (xP_i (fun _ => nx es k) (fun _ => ?_))))
    obtain ⟨m2, z1, z2, -⟩ := r251 (F := F) (m := m) (lg := false) (v3 := 0) (by decide) hF (by rw [es]; exact I) (t := t) (h := h) (by rw [es]; omega) (by rw [es]; exact hh)
    have k2 := kmt_t k (kmt_c z2)
    exact xP_bp z1 (xP_i (fun _ => nx (kmt_80 (kmt_c z2) es) k2) (fun _ => xP_r k2))
theorem P270 (hF : 120000 ≤ F) (I : vI s) {h : Nat} (hh : (h : Int) < (s 0).toInt) {v2 : Int32} (es : m.1 80 = s) : xP (D270 F (Int32.ofNat h) v2 m) (fun _ m' => kmt m m') := by
  have n2 := I_nt I
  unfold D270
  exact P270_2 hF I hh F (t := 0) es (kmt_r m) (by omega) (by omega)
/-- keeps, laysBack -/
theorem r259_2 : ∀ (f : Nat) {m : xS} {k : Nat}, k ≤ 124 → 124 - k < f → ∃ c, D259_2 F f (Int32.ofNat k) m = some ((), xr m 84 c) ∧ (∀ j, k ≤ j → j < 124 → c j = m.1 80 j) ∧ ∀ j, j < k → c j = m.1 84 j := by
  intro f
  induction f with
  | zero => intro m k _ l; omega
  | succ f ih =>
    intro m k hk l
    have ek := nJ (n := k) (by omega)
    have e124 : (124 : Int32).toInt = 124 := rfl
    unfold D259_2
    by_cases q : 124 ≤ k
    · exact ⟨m.1 84, oT (zc.trans (decide_eq_true (by omega))) (by rw [xr_id]), fun j h1 h2 => by omega, fun _ _ => rfl⟩
    · obtain ⟨c, d1, d2, d3⟩ := ih (m := xu m 84 k (m.1 80 k)) (k := k + 1) (by omega) (by omega)
      have r80 : (xu m 84 k (m.1 80 k)).1 80 = m.1 80 := xu_row (by decide)
      refine ⟨c, oF (zc.trans (decide_eq_false (by omega))) (oT (gxb ek (by omega)) (oT (gxb ek (by omega)) ?_)), fun j h1 h2 => ?_, fun j h1 => ?_⟩
      · rw [gxn ek, (o1 (n := k) (by omega)).2.2, d1, xu_xr, xr_xr]
      · by_cases z : j = k
        · rw [z, d3 k (by omega), xu_s]
        · rw [d2 j (by omega) h2, r80]
      · rw [d3 j (by omega), xu_o (fun y => by omega)]
theorem r259 (hF : 500 ≤ F) : ∃ c, D259 F m = some ((), xr m 84 c) ∧ ∀ j, j < 124 → c j = m.1 80 j := by
  obtain ⟨c, d1, d2, -⟩ := r259_2 (F := F) F (m := m) (k := 0) (by omega) (by omega)
  unfold D259
  exact ⟨c, d1, fun j hj => d2 j (Nat.zero_le _) hj⟩
theorem r260_2 : ∀ (f : Nat) {m : xS} {k : Nat}, k ≤ 124 → 124 - k < f → ∃ c, D260_2 F f (Int32.ofNat k) m = some ((), xr m 80 c) ∧ (∀ j, k ≤ j → j < 124 → c j = m.1 84 j) ∧ ∀ j, (j < k ∨ 124 ≤ j) → c j = m.1 80 j := by
  intro f
  induction f with
  | zero => intro m k _ l; omega
  | succ f ih =>
    intro m k hk l
    have ek := nJ (n := k) (by omega)
    have e124 : (124 : Int32).toInt = 124 := rfl
    unfold D260_2
    by_cases q : 124 ≤ k
    · exact ⟨m.1 80, oT (zc.trans (decide_eq_true (by omega))) (by rw [xr_id]), fun j h1 h2 => by omega, fun _ _ => rfl⟩
    · obtain ⟨c, d1, d2, d3⟩ := ih (m := xu m 80 k (m.1 84 k)) (k := k + 1) (by omega) (by omega)
      have r84 : (xu m 80 k (m.1 84 k)).1 84 = m.1 84 := xu_row (by decide)
      refine ⟨c, oF (zc.trans (decide_eq_false (by omega))) (oT (gxb ek (by omega)) (oT (gxb ek (by omega)) ?_)), fun j h1 h2 => ?_, fun j h1 => ?_⟩
      · rw [gxn ek, (o1 (n := k) (by omega)).2.2, d1, xu_xr, xr_xr]
      · by_cases z : j = k
        · rw [z, d3 k (by omega), xu_s]
        · rw [d2 j (by omega) h2, r84]
      · rw [d3 j (by omega), xu_o (fun y => by omega)]
/-- what was kept is laid back -/
theorem r260 (hF : 500 ≤ F) {s : Nat → Int32} (h1 : ∀ j, j < 124 → m.1 84 j = s j) (h2 : ∀ j, 124 ≤ j → m.1 80 j = s j) : D260 F m = some ((), xr m 80 s) := by
  obtain ⟨c, d1, d2, d3⟩ := r260_2 (F := F) F (m := m) (k := 0) (by omega) (by omega)
  have e : c = s := funext fun j => by
    by_cases z : j < 124
    · rw [d2 j (Nat.zero_le _) z, h1 j z]
    · rw [d3 j (Or.inr (by omega)), h2 j (by omega)]
  unfold D260
  rw [← e]
  exact d1
end PMTC
end
section
/-! Calls of the reference that try and lay back. -/
def kow (m m' : xS) : Prop := (∀ i j, i ≠ 82 → i ≠ 83 → i ≠ 84 → ¬ (i = 70 ∧ (j = 20 ∨ j = 27 ∨ j = 30)) → m'.1 i j = m.1 i j) ∧ ∀ i j, i ≠ 70 → i ≠ 78 → i ≠ 79 → m'.2 i j = m.2 i j
theorem kow_r (m : xS) : kow m m := ⟨fun _ _ _ _ _ _ => rfl, fun _ _ _ _ _ => rfl⟩
theorem kow_t {a b c : xS} (h1 : kow a b) (h2 : kow b c) : kow a c := ⟨fun i j e1 e2 e3 e4 => (h2.1 i j e1 e2 e3 e4).trans (h1.1 i j e1 e2 e3 e4), fun i j e1 e2 e3 => (h2.2 i j e1 e2 e3).trans (h1.2 i j e1 e2 e3)⟩
theorem kow_m {a b : xS} (h : kmt a b) : kow a b := ⟨fun i j e1 e2 _ e4 => h.1 i j e1 e2 (fun y => e4 ⟨y.1, Or.inr y.2⟩), fun i j _ _ _ => by rw [h.2]⟩
theorem kow_row {a b : xS} (h : kow a b) {i : Nat} (e1 : i ≠ 70) (e2 : i ≠ 82) (e3 : i ≠ 83) (e4 : i ≠ 84) : b.1 i = a.1 i := funext fun j => h.1 i j e2 e3 e4 (fun y => e1 y.1)
theorem kow_rMx {m m' : xS} (k : kow m m') (M : rMx m) : rMx m' := rMx_c (kow_row k (by decide) (by decide) (by decide) (by decide)) (kow_row k (by decide) (by decide) (by decide) (by decide)) ⟨k.1 14 1 (by decide) (by decide) (by decide) (by decide), k.1 14 2 (by decide) (by decide) (by decide) (by decide)⟩ (k.1 70 25 (by decide) (by decide) (by decide) (by decide)) (kow_row k (by decide) (by decide) (by decide) (by decide)) (fun a h1 h2 => kow_row k (by omega) (by omega) (by omega) (by omega)) (fun a h1 h2 => kow_row k (by omega) (by omega) (by omega) (by omega)) (kow_row k (by decide) (by decide) (by decide) (by decide)) (kow_row k (by decide) (by decide) (by decide) (by decide)) (kow_row k (by decide) (by decide) (by decide) (by decide)) (kow_row k (by decide) (by decide) (by decide) (by decide)) (kow_row k (by decide) (by decide) (by decide) (by decide)) (k.1 70 23 (by decide) (by decide) (by decide) (by decide)) (k.1 43 0 (by decide) (by decide) (by decide) (by decide)) M
theorem kow_ruI {z : zHp} {m : xS} (H : yH0 z) (k : kow (xof z) m) (h : ruI z) : ruI (xW z m) := fun j hj => by
  rw [xof_f H (show xti 0 10 8 = true by decide), k.1 0 8 (by decide) (by decide) (by decide) (by decide)] at hj
  obtain ⟨o, C, r⟩ := h j hj
  refine ⟨o, ruC_d (xW_2 (fun b => congrFun (kow_row k (by decide) (by decide) (by decide) (by decide)) b) (fun b => k.2 13 b (by decide) (by decide) (by decide))) (xW_2 (fun b => congrFun (kow_row k (by omega) (by omega) (by omega) (by omega)) b) (fun b => k.2 _ b (by omega) (by omega) (by omega))) rfl C, ruR_o (fun l _ _ => ?_) (fun l _ _ => ?_) ?_ r⟩
  · rw [xof_t H (k := 0) (n := 2400) (by decide), kow_row k (by decide) (by decide) (by decide) (by decide)]
  · rw [xof_t H (k := 0) (n := 288) (by decide), kow_row k (by decide) (by decide) (by decide) (by decide)]
  · rw [xof_t H (k := 0) (n := 6) (by decide), kow_row k (by decide) (by decide) (by decide) (by decide)]
/-- the class by its frame, the reference laid back -/
theorem eW {n1 : Nat} {sp1 : ySp} (T1 : yTs (yEA yAr) n1 sp1) {na : Nat} {bl : List Nat} (c1 : (eOk 0 na bl sp1.2.2.1 && (decide (n1 ≤ 20) && (decide (na + 1 ≤ sp1.2.1) && sp1.2.2.2.1.all eQok))) = true) (hM : (ydj sp1.2.2.2.2 rMM && ydj sp1.2.2.2.2 ruM) = true) (hC : ydj sp1.2.2.2.2 r0M = true) (ys : List Int32) (hl : ys.length = na) (hb : ∀ s ∈ bl, ∀ y, ys[s]? = some y → 0 ≤ y.toInt ∧ y.toInt ≤ 1) {kr : Nat} (P : lP rI sp1.1 kr (ys.map .int) false) {Dr : xS → Option (Int32 × xS)} (Zr : ∀ {hp : zHp}, yH0 hp → ∀ {y : Int32 × xS}, Dr (xof hp) = some y → zCan 20 kr (.ref 70 :: ys.map .int) (xW hp (xof hp)) (some (.int y.1), xW hp y.2)) (K : ∀ hp : zHp, yH0 hp → rMx (xof hp) → ruI hp → ((xof hp).1 70 2).toInt = ((xof hp).1 0 8).toInt → xP (Dr (xof hp)) (fun _ m => kow (xof hp) m)) : lP MR sp1.1 kr (ys.map .int) false := fun hp hI => by
  rw [Bool.and_eq_true] at hM
  obtain ⟨x1, x2, z1, z2, a1, a2, a3, a4, a5, a6, a7, -⟩ := P hp hI.1.1
  obtain ⟨x3, w1, b1, b2, b3, -⟩ := eSp T1 c1 hI.1.1.1 hl hb
  have u := zCan_u a3 b1
  cases u
  have M1 := rMx_F b3 hM.1 hI.1.2
  have U1 := ruI_F hI.1.1.1.1 b3 hM.2 hI.2
  have e08 : (xof z1).1 0 8 = (xof hp).1 0 8 := eF b3 (ydj_ok hM.2 0 8 rfl)
  have e702 : ((xof z1).1 70 2).toInt = ((xof z1).1 0 8).toInt := by
    have q1 : (xof z1).1 70 2 = (xof hp).1 70 2 := eF b3 (ydj_ok hC 70 2 rfl)
    rw [q1, e08]
    exact hI.1.1.2.2.1
  obtain ⟨y, hy, hk⟩ := K z1 b2.1 M1 U1 e702
  have u := Zr b2.1 hy
  rw [xW_of] at u
  have u := zCan_u a5 u
  cases u
  exact ⟨_, _, _, _, a1, a2, a3, a4, a5, a6, ⟨⟨a7, rMx_w (xrw_of b2.1 _) (kow_rMx hk M1)⟩, kow_ruI b2.1 hk U1⟩, fun h => by cases h⟩
section PBCK
variable {s : Nat → Int32} {m : xS} {F : Nat}
/-- kept, tried, laid back -/
theorem kow_b (hF : 500 ≤ F) {s2 c : Nat → Int32} {m3 : xS} (es : m.1 80 = s) (hc : ∀ j, j < 124 → c j = m.1 80 j) (k : kmt (xr (xr m 84 c) 80 s2) m3) (h2 : ∀ j, 124 ≤ j → s2 j = s j) : D260 F m3 = some ((), xr m3 80 s) ∧ kow m (xr m3 80 s) := by
  have r84 : ∀ j, m3.1 84 j = c j := fun j => (k.1 84 j (by decide) (by decide) (fun y => absurd y.1 (by decide))).trans (by rw [xr_o (by decide), xr_s])
  have r80 : ∀ j, m3.1 80 j = s2 j := fun j => (k.1 80 j (by decide) (by decide) (fun y => absurd y.1 (by decide))).trans (by rw [xr_s])
  refine ⟨r260 hF (fun j hj => by rw [r84, hc j hj, es]) (fun j hj => by rw [r80, h2 j hj]), fun i j e1 e2 e3 e4 => ?_, fun i j _ _ _ => by show m3.2 i j = _; rw [k.2]; rfl⟩
  by_cases z : i = 80
  · subst z
    rw [xr_s, es]
  · rw [xr_o z, k.1 i j e1 e2 (fun y => e4 ⟨y.1, Or.inr y.2⟩), xr_o z, xr_o e3]
theorem P261_37 (hF : 120000 ≤ F) (I : vI s) {t : Nat} (ht : (t : Int) < (s 2).toInt) {v2 : Int32} {m0 : xS} : ∀ (f : Nat) {m : xS} {h : Nat} {v3 v4 : Int32}, m.1 80 = s → kow m0 m → (h : Int) ≤ (s 0).toInt → 7 - h < f → xP (D261_37 F f (Int32.ofNat t) v2 v3 v4 (Int32.ofNat h) m) (fun _ m' => kow m0 m') := by
  have n6 := I_n6 I
  have t6 : t < 6 := by have := I_nt I; omega
  intro f
  induction f with
  | zero => intro m h v3 v4 _ _ _ l; omega
  | succ f ih =>
    intro m h v3 v4 es k hh l
    have eh := nJ (n := h) (by omega)
    unfold D261_37
    rw [es]
    refine xP_i (fun _ => xP_i (fun _ => xP_r k) (fun _ => xP_r k)) (fun cc => ?_)
    have cc : ¬ (s 0).toInt ≤ (Int32.ofNat h).toInt := of_decide_eq_false (zc.symm.trans cc)
    have nx : ∀ {m2 : xS} {v3' v4' : Int32}, m2.1 80 = s → kow m0 m2 → xP (D261_101 F (D261_37 F f) (Int32.ofNat t) v2 v3' v4' (Int32.ofNat h) m2) (fun _ m' => kow m0 m') := fun {m2 v3' v4'} h2 h3 => by
      unfold D261_101
      rw [(o1 (n := h) (by omega)).2.2]
      exact ih h2 h3 (by omega) (by omega)
    refine xP_bp (r208 (w := 0) rfl rfl t6 (by decide)) (xP_i (fun _ => ?_) (fun _ => nx es k))
    obtain ⟨c, z1, z2⟩ := r259 (F := F) (m := m) (by omega)
    have J := I_gv (v := Int32.ofNat h) I ht (by omega) (by omega)
    have y1 := r231 (F := F) (m := xr m 84 c) (t := t) (v1 := Int32.ofNat t) (v2 := Int32.ofNat h) rfl t6
    rw [xr_o (by decide), es] at y1
    refine xP_bp z1 (xP_bp y1 (xP_b (P256 hF J (xr_s _ _ _)) (fun v m3 k3 => ?_)))
    obtain ⟨w1, w2⟩ := kow_b (F := F) (by omega) es z2 k3 (fun j hj => pgv_o (by omega))
    exact xP_bp w1 (xP_i (fun _ => nx (xr_s _ _ _) (kow_t k w2)) (fun _ => nx (xr_s _ _ _) (kow_t k w2)))
theorem P261 (hF : 120000 ≤ F) (I : vI (m.1 80)) {y1 y2 : Int32} : xP (D261 F y1 y2 m) (fun _ m' => kow m m') := by
  have n2 := I_nt I
  have n0 := I_n0 I
  unfold D261
  refine xP_bp r206 (xP_i (fun _ => xP_r (kow_r m)) (fun c => ?_))
  have c : pin (m.1 80) 2 y1 = true := by
    rw [pB1] at c
    simpa using c
  obtain ⟨t, rfl, ht⟩ := pin_n c
  have t6 : t < 6 := by omega
  refine xP_bp (r158 (x := 0) (y := 1) rfl rfl) (xP_i (fun _ => ?_) (fun _ => xP_r (kow_r m)))
  refine xP_bp (r208 (w := 0) rfl rfl t6 (by decide)) (xP_b (P256 hF I rfl) (fun v m1 k1 => ?_))
  exact P261_37 hF I ht F (h := 0) (kmt_80 k1 rfl) (kow_m k1) (by omega) (by omega)
theorem pqu_k {a d j : Nat} (ha : a < 6) (hd : d < 6) (hj : 124 ≤ j) : pqu s a d j = s j := by
  unfold pqu
  rw [cup_o (by omega), cup_o (by omega)]
theorem P262_57 (hF : 120000 ≤ F) (I : vI s) {a : Nat} (ha : (a : Int) < (s 0).toInt) {v1 v2 : Int32} {g40 : Int32 → Int32 → Int32 → Int32 → Int32 → Int32 → xS → Option (Int32 × xS)} {Q : Int32 → xS → Prop} {m0 : xS} (K : ∀ v3 v4 v5 m', m'.1 80 = s → kow m0 m' → xP (g40 v1 v2 v3 v4 v5 (Int32.ofNat (a + 1)) m') Q) : ∀ (f : Nat) {m : xS} {b : Nat} {v3 v4 v5 : Int32}, m.1 80 = s → kow m0 m → (b : Int) ≤ (s 0).toInt → 7 - b < f → xP (D262_57 F g40 f v1 v2 v3 v4 v5 (Int32.ofNat a) (Int32.ofNat b) m) Q := by
  have n6 := I_n6 I
  intro f
  induction f with
  | zero => intro m b v3 v4 v5 _ _ _ l; omega
  | succ f ih =>
    intro m b v3 v4 v5 es k hb l
    have eb := nJ (n := b) (by omega)
    have a6 : a < 6 := by omega
    unfold D262_57
    rw [es]
    refine xP_i (fun _ => ?_) (fun cc => ?_)
    · rw [(o1 (n := a) (by omega)).2.2]
      exact K _ _ _ m es k
    · have cc : ¬ (s 0).toInt ≤ (Int32.ofNat b).toInt := of_decide_eq_false (zc.symm.trans cc)
      have b6 : b < 6 := by omega
      have nx : ∀ {m2 : xS} {v3' v4' v5' : Int32}, m2.1 80 = s → kow m0 m2 → xP (D262_141 F g40 (D262_57 F g40 f) v1 v2 v3' v4' v5' (Int32.ofNat a) (Int32.ofNat b) m2) Q := fun {m2 v3' v4' v5'} h2 h3 => by
        unfold D262_141
        rw [(o1 (n := b) (by omega)).2.2]
        exact ih h2 h3 (by omega) (by omega)
      have go : xP (D262_93 F g40 (D262_57 F g40 f) v1 v2 v3 v4 v5 (Int32.ofNat a) (Int32.ofNat b) m) Q := by
        unfold D262_93
        obtain ⟨c, z1, z2⟩ := r259 (F := F) (m := m) (by omega)
        have J := I_qu I a6 b6
        have y1 := r229 (F := F) (m := xr m 84 c) (a := a) (d := b) (v1 := Int32.ofNat a) (v2 := Int32.ofNat b) rfl rfl a6 b6
        rw [xr_o (by decide), es] at y1
        refine xP_bp z1 (xP_bp y1 (xP_b (P256 hF J (xr_s _ _ _)) (fun v m3 k3 => ?_)))
        obtain ⟨w1, w2⟩ := kow_b (F := F) (by omega) es z2 k3 (fun j hj => pqu_k a6 b6 hj)
        have n130 : ∀ {v8 : Int32}, xP (D262_130 F g40 (D262_57 F g40 f) v1 v2 v3 v4 v5 (Int32.ofNat a) (Int32.ofNat b) v8 (xr m3 80 s)) Q := fun {v8} => by
          unfold D262_130
          exact nx (xr_s _ _ _) (kow_t k w2)
        exact xP_bp w1 (xP_i (fun _ => n130) (fun _ => xP_i (fun _ => n130) (fun _ => nx (xr_s _ _ _) (kow_t k w2))))
      exact xP_bp (r210 rfl rfl a6 b6) (xP_i (fun _ => go) (fun _ => xP_bp (r210 rfl rfl b6 a6) (xP_i (fun _ => go) (fun _ => nx es k))))
theorem P262_40 (hF : 120000 ≤ F) (I : vI s) {v1 v2 : Int32} {m0 : xS} : ∀ (f : Nat) {m : xS} {a : Nat} {v3 v4 v5 : Int32}, m.1 80 = s → kow m0 m → (a : Int) ≤ (s 0).toInt → 7 - a < f → xP (D262_40 F f v1 v2 v3 v4 v5 (Int32.ofNat a) m) (fun _ m' => kow m0 m') := by
  have n6 := I_n6 I
  intro f
  induction f with
  | zero => intro m a v3 v4 v5 _ _ _ l; omega
  | succ f ih =>
    intro m a v3 v4 v5 es k ha l
    have ea := nJ (n := a) (by omega)
    unfold D262_40
    rw [es]
    refine xP_i (fun _ => xP_i (fun _ => xP_i (fun _ => xP_i (fun _ => xP_r k) (fun _ => xP_r k)) (fun _ => xP_r k)) (fun _ => xP_r k)) (fun cc => ?_)
    have cc : ¬ (s 0).toInt ≤ (Int32.ofNat a).toInt := of_decide_eq_false (zc.symm.trans cc)
    rw [show Int32.ofNat a + 1 = Int32.ofNat (a + 1) from xadd (a := a) (b := 1) (by omega)]
    exact P262_57 hF I (by omega) (fun v3 v4 v5 m' e1 k1 => ih e1 k1 (by omega) (by omega)) F es k (by omega) (by omega)
theorem P262 (hF : 120000 ≤ F) (I : vI (m.1 80)) {y1 : Int32} : xP (D262 F y1 m) (fun _ m' => kow m m') := by
  have n0 := I_n0 I
  unfold D262
  refine xP_bp r204 (xP_i (fun _ => xP_r (kow_r m)) (fun _ => xP_bp (r158 (x := 0) (y := 2) rfl rfl) (xP_i (fun _ => ?_) (fun _ => xP_r (kow_r m)))))
  refine xP_b (P256 hF I rfl) (fun v m1 k1 => ?_)
  exact P262_40 hF I F (a := 0) (kmt_80 k1 rfl) (kow_m k1) (by omega) (by omega)
theorem P271_2 (hF : 120000 ≤ F) (I : vI s) {h : Nat} (hh : (h : Int) < (s 0).toInt) {v2 : Int32} {m0 : xS} : ∀ (f : Nat) {m : xS} {g : Nat}, m.1 80 = s → kow m0 m → (g : Int) ≤ (s 0).toInt → 7 - g < f → xP (D271_2 F f (Int32.ofNat h) v2 (Int32.ofNat g) m) (fun _ m' => kow m0 m' ∧ m'.1 80 = s) := by
  have n6 := I_n6 I
  intro f
  induction f with
  | zero => intro m g _ _ _ l; omega
  | succ f ih =>
    intro m g es k hg l
    have eg := nJ (n := g) (by omega)
    unfold D271_2
    rw [es]
    refine xP_i (fun _ => xP_r ⟨k, es⟩) (fun cc => ?_)
    have cc : ¬ (s 0).toInt ≤ (Int32.ofNat g).toInt := of_decide_eq_false (zc.symm.trans cc)
    have g6 : g < 6 := by omega
    have h6 : h < 6 := by omega
    have nx : ∀ {m2 : xS}, m2.1 80 = s → kow m0 m2 → xP (D271_49 F (D271_2 F f) (Int32.ofNat h) v2 (Int32.ofNat g) m2) (fun _ m' => kow m0 m' ∧ m'.1 80 = s) := fun {m2} h2 h3 => by
      unfold D271_49
      rw [(o1 (n := g) (by omega)).2.2]
      exact ih h2 h3 (by omega) (by omega)
    refine xP_i (fun _ => ?_) (fun _ => nx es k)
    obtain ⟨c, z1, z2⟩ := r259 (F := F) (m := m) (by omega)
    have J := I_qu I h6 g6
    have e0 : pqu s h g 0 = s 0 := by
      unfold pqu
      rw [cup_o (by omega), cup_o (by omega)]
    have y1 := r229 (F := F) (m := xr m 84 c) (a := h) (d := g) (v1 := Int32.ofNat h) (v2 := Int32.ofNat g) rfl rfl h6 g6
    rw [xr_o (by decide), es] at y1
    refine xP_bp z1 (xP_bp y1 (xP_b (P270 hF J (by rw [e0]; exact hh) (xr_s _ _ _)) (fun v m3 k3 => ?_)))
    obtain ⟨w1, w2⟩ := kow_b (F := F) (by omega) es z2 k3 (fun j hj => pqu_k h6 g6 hj)
    exact xP_bp w1 (xP_i (fun _ => nx (xr_s _ _ _) (kow_t k w2)) (fun _ => xP_r ⟨kow_t k w2, xr_s _ _ _⟩))
theorem P272_25 (hF : 120000 ≤ F) (I : vI s) {v1 : Int32} {m0 : xS} : ∀ (f : Nat) {m : xS} {h : Nat} {v2 : Int32}, m.1 80 = s → kow m0 m → (h : Int) ≤ (s 0).toInt → 7 - h < f → xP (D272_25 F f v1 v2 (Int32.ofNat h) m) (fun _ m' => kow m0 m') := by
  have n6 := I_n6 I
  have n0 := I_n0 I
  intro f
  induction f with
  | zero => intro m h v2 _ _ _ l; omega
  | succ f ih =>
    intro m h v2 es k hh l
    have eh := nJ (n := h) (by omega)
    unfold D272_25
    rw [es]
    refine xP_i (fun _ => xP_r k) (fun cc => ?_)
    have cc : ¬ (s 0).toInt ≤ (Int32.ofNat h).toInt := of_decide_eq_false (zc.symm.trans cc)
    have q : xP (D271 F (Int32.ofNat h) v1 m) (fun _ m' => kow m0 m' ∧ m'.1 80 = s) := by
      unfold D271
      exact P271_2 hF I (by omega) F (g := 0) es k (by omega) (by omega)
    refine xP_b q (fun v m1 q1 => ?_)
    have nx : ∀ {w0 w1 : Int32}, xP (D272_52 F (D272_25 F f) v1 v2 (Int32.ofNat h) w0 w1 m1) (fun _ m' => kow m0 m') := fun {w0 w1} => by
      unfold D272_52
      rw [(o1 (n := h) (by omega)).2.2]
      exact ih q1.2 q1.1 (by omega) (by omega)
    exact xP_i (fun _ => nx) (fun _ => nx)
theorem P272 (hF : 120000 ≤ F) (I : vI (m.1 80)) {y1 : Int32} : xP (D272 F y1 m) (fun _ m' => kow m m') := by
  have n0 := I_n0 I
  unfold D272
  refine xP_bp r204 (xP_i (fun _ => xP_r (kow_r m)) (fun _ => xP_bp (r158 (x := 0) (y := 4) rfl rfl) (xP_i (fun _ => ?_) (fun _ => xP_r (kow_r m)))))
  exact P272_25 hF I F (h := 0) rfl (kow_r m) (by omega) (by omega)
end PBCK
theorem nOwner {y1 y2 : Int32} : lP MR 144 261 [.int y1, .int y2] false := eW (yt1225 yXx.1) (na := 2) (bl := []) (by decide +kernel) (by decide +kernel) (by decide +kernel) [y1, y2] rfl (fun s hs => by cases hs) e0_19 (Dr := D261 200000 y1 y2) (fun {_} H {_} h => Z261 H h (by decide)) (fun hp _ M _ _ => P261 (by decide) M.1.2.1)
theorem nBreaks {y1 : Int32} : lP MR 145 262 [.int y1] false := eW (yt1193 yXx.1) (na := 1) (bl := []) (by decide +kernel) (by decide +kernel) (by decide +kernel) [y1] rfl (fun s hs => by cases hs) e0_20 (Dr := D262 200000 y1) (fun {_} H {_} h => Z262 H h (by decide)) (fun hp _ M _ _ => P262 (by decide) M.1.2.1)
theorem nSafe {y1 : Int32} : lP MR 150 272 [.int y1] false := eW (yt861 yXx.1) (na := 1) (bl := []) (by decide +kernel) (by decide +kernel) (by decide +kernel) [y1] rfl (fun s hs => by cases hs) e0_25 (Dr := D272 200000 y1) (fun {_} H {_} h => Z272 H h (by decide)) (fun hp _ M _ _ => P272 (by decide) M.1.2.1)
end
section
/-! Methods as functions over the memory. -/
set_option maxRecDepth 4000 in
theorem xg111 : zg zms 111 = some (zm111.2.2.1, zm111.2.2.2.1, zc111) := rfl
theorem xr111 : zar 111 = (0, 8) := by decide +kernel
set_option maxRecDepth 4000 in
theorem xg149 : zg zms 149 = some (zm149.2.2.1, zm149.2.2.2.1, zc149) := rfl
theorem xr149 : zar 149 = (1, 10) := by decide +kernel
/-- LentTools$Village.isAllDone -/
def D111_9 (F : Nat) (m : xS) : Option (Int32 × xS) :=
  (D110_9 F m).bind fun q1 =>
    (D80_9 F q1.2).bind fun q6 =>
      if zcmp .ne q1.1 ((1 <<< (q6.1 &&& 31)) - 1) = true then
        some (0, q6.2)
      else
        some (1, q6.2)
set_option maxRecDepth 20000 in
theorem T111_9 {B : zHp} (H : yH0 B) {e : Nat} (he : 4 ≤ e + 1) (F : Nat) {lv : List (Nat × Value)} {m : xS} {x : Int32 × xS} (l0 : zld lv 0 = some (.ref 9)) (h : D111_9 F m = some x) : zR none e 1 (some .boolean) zc111 (0, lv, []) (xW B m) (some (.int x.1), xW B x.2) := by
  unfold D111_9 at h
  refine q_lr (k := 1) (i := 0) (q := (.aload_n 0, 1, 0, 0, .null)) rfl (fun _ => rfl) l0 ?_
  obtain ⟨q1, h1, h⟩ := xbind h
  refine r_call (ix := 9) (as := []) (rest := []) (rv := some (.int q1.1)) (hp' := xW B q1.2) (pc := 1) rfl xr110 rfl rfl rfl (xkd H (by decide)) (Nat.le_of_ble_eq_true rfl) (Z110_9 H h1 (by omega)) (Nat.le_refl _) ?_
  refine r_s (fr' := (5, lv, [.int 1, .int q1.1])) (hp' := xW B q1.2) (q := (.iconst 1, 1, 0, 0, .null)) rfl (fun _ => rfl) (Nat.le_refl _) ?_
  refine q_lr (k := 1) (i := 0) (q := (.aload_n 0, 1, 0, 0, .null)) rfl (fun _ => rfl) l0 ?_
  obtain ⟨q6, h6, h⟩ := xbind h
  refine r_call (ix := 9) (as := []) (rest := [.int 1, .int q1.1]) (rv := some (.int q6.1)) (hp' := xW B q6.2) (pc := 6) rfl xr80 rfl rfl rfl (xkd H (by decide)) (Nat.le_of_ble_eq_true rfl) (Z80_9 H h6 (by omega)) (Nat.le_refl _) ?_
  refine r_s (fr' := (10, lv, [.int (1 <<< (q6.1 &&& 31)), .int q1.1])) (hp' := xW B q6.2) (q := (.ishl, 1, 0, 0, .null)) rfl (fun _ => rfl) (Nat.le_refl _) ?_
  refine r_s (fr' := (11, lv, [.int 1, .int (1 <<< (q6.1 &&& 31)), .int q1.1])) (hp' := xW B q6.2) (q := (.iconst 1, 1, 0, 0, .null)) rfl (fun _ => rfl) (Nat.le_refl _) ?_
  refine r_s (fr' := (12, lv, [.int ((1 <<< (q6.1 &&& 31)) - 1), .int q1.1])) (hp' := xW B q6.2) (q := (.isub, 1, 0, 0, .null)) rfl (fun _ => rfl) (Nat.le_refl _) ?_
  refine r_ifc (len := 3) (a := 19) (b := 0) (v0 := .null) (cn := .ne) (off := 7) rfl (fun c => ?_) (fun c => ?_)
  · rw [if_pos c] at h
    refine r_s (fr' := (20, lv, [.int 0])) (hp' := xW B q6.2) (q := (.iconst 0, 1, 0, 0, .null)) rfl (fun _ => rfl) (Nat.le_refl _) ?_
    obtain rfl := Option.some.inj h
    exact q_ri (q := (.ireturn, 1, 0, 0, .null)) rfl (fun _ => rfl) rfl rfl
  · rw [if_neg (by rw [c]; decide)] at h
    refine r_s (fr' := (16, lv, [.int 1])) (hp' := xW B q6.2) (q := (.iconst 1, 1, 0, 0, .null)) rfl (fun _ => rfl) (Nat.le_refl _) ?_
    refine r_s (fr' := (20, lv, [.int 1])) (hp' := xW B q6.2) (q := (.goto 4, 3, 20, 0, .null)) rfl (fun _ => rfl) (Nat.le_refl _) ?_
    obtain rfl := Option.some.inj h
    exact q_ri (q := (.ireturn, 1, 0, 0, .null)) rfl (fun _ => rfl) rfl rfl
set_option maxRecDepth 20000 in
theorem Z111_9 {B : zHp} (H : yH0 B) {F : Nat} {m : xS} {x : Int32 × xS} (h : D111_9 F m = some x) {d : Nat} (hd : 4 ≤ d) : zCan d 111 [.ref 9] (xW B m) (some (.int x.1), xW B x.2) := by
  obtain ⟨e, rfl⟩ : ∃ e, d = e + 1 := ⟨d - 1, by omega⟩
  refine zCan_body (nL := 1) (rt := (some .boolean)) (cd := zc111) (xg111) ⟨Nat.le_of_ble_eq_true rfl, by decide⟩ (Nat.le_refl _) ?_
  exact T111_9 H hd F rfl h
/-- LentTools$Village.wantedOf -/
def D114_11t_84 (F : Nat) (g6 : Int32 → Int32 → Int32 → Int32 → Int32 → Int32 → xS → Option (Int32 × xS)) (v1 : Int32) (v2 : Int32) (v3 : Int32) (v4 : Int32) (v5 : Int32) (v6 : Int32) (m : xS) : Option (Int32 × xS) :=
  g6 v1 v2 v3 v4 v5 (v6 + Int32.ofInt 1) m
set_option maxRecDepth 20000 in
theorem T114_11t_84 {B : zHp} (H : yH0 B) {e : Nat} (he : 2 ≤ e + 1) (F : Nat) (g6 : Int32 → Int32 → Int32 → Int32 → Int32 → Int32 → xS → Option (Int32 × xS)) (k6 : ∀ {v1 : Int32} {v2 : Int32} {v3 : Int32} {v4 : Int32} {v5 : Int32} {v6 : Int32} {lv : List (Nat × Value)} {m : xS} {x : Int32 × xS}, zld lv 0 = some (.ref 11) → zld lv 1 = some (.int v1) → zld lv 2 = some (.int v2) → zld lv 3 = some (.int v3) → zld lv 4 = some (.int v4) → zld lv 5 = some (.int v5) → zld lv 6 = some (.int v6) → g6 v1 v2 v3 v4 v5 v6 m = some x → zR none e 8 (some .int) zc114 (6, lv, []) (xW B m) (some (.int x.1), xW B x.2)) {v1 : Int32} {v2 : Int32} {v3 : Int32} {v4 : Int32} {v5 : Int32} {v6 : Int32} {lv : List (Nat × Value)} {m : xS} {x : Int32 × xS} (l0 : zld lv 0 = some (.ref 11)) (l1 : zld lv 1 = some (.int v1)) (l2 : zld lv 2 = some (.int v2)) (l3 : zld lv 3 = some (.int v3)) (l4 : zld lv 4 = some (.int v4)) (l5 : zld lv 5 = some (.int v5)) (l6 : zld lv 6 = some (.int v6)) (h : D114_11t_84 F g6 v1 v2 v3 v4 v5 v6 m = some x) : zR none e 8 (some .int) zc114 (84, lv, []) (xW B m) (some (.int x.1), xW B x.2) := by
  unfold D114_11t_84 at h
  refine q_inc (i := 6) (n := 1) (q := (.iinc 6 1, 3, 0, 0, .null)) rfl (fun _ => rfl) l6 (by decide) ?_
  have l0_1 : zld (zs1 lv 6 (.int (v6 + Int32.ofInt 1))) 0 = some (.ref 11) := x_o1 l0 rfl rfl
  have l1_1 : zld (zs1 lv 6 (.int (v6 + Int32.ofInt 1))) 1 = some (.int v1) := x_o1 l1 rfl rfl
  have l2_1 : zld (zs1 lv 6 (.int (v6 + Int32.ofInt 1))) 2 = some (.int v2) := x_o1 l2 rfl rfl
  have l3_1 : zld (zs1 lv 6 (.int (v6 + Int32.ofInt 1))) 3 = some (.int v3) := x_o1 l3 rfl rfl
  have l4_1 : zld (zs1 lv 6 (.int (v6 + Int32.ofInt 1))) 4 = some (.int v4) := x_o1 l4 rfl rfl
  have l5_1 : zld (zs1 lv 6 (.int (v6 + Int32.ofInt 1))) 5 = some (.int v5) := x_o1 l5 rfl rfl
  have l6_1 : zld (zs1 lv 6 (.int (v6 + Int32.ofInt 1))) 6 = some (.int (v6 + Int32.ofInt 1)) := zs1_ld _ _ _
  generalize (zs1 lv 6 (.int (v6 + Int32.ofInt 1))) = lv1 at *
  refine r_s (fr' := (6, lv1, [])) (hp' := xW B m) (q := (.goto (-81), 3, 6, 0, .null)) rfl (fun _ => rfl) (Nat.le_refl _) ?_
  exact k6 l0_1 l1_1 l2_1 l3_1 l4_1 l5_1 l6_1 h
def D114_11t_82 (F : Nat) (g6 : Int32 → Int32 → Int32 → Int32 → Int32 → Int32 → xS → Option (Int32 × xS)) (v1 : Int32) (v2 : Int32) (v3 : Int32) (v4 : Int32) (v5 : Int32) (v6 : Int32) (v7 : Int32) (w0 : Int32) (m : xS) : Option (Int32 × xS) :=
  D114_11t_84 F g6 v1 v2 v3 v4 w0 v6 m
set_option maxRecDepth 20000 in
theorem T114_11t_82 {B : zHp} (H : yH0 B) {e : Nat} (he : 2 ≤ e + 1) (F : Nat) (g6 : Int32 → Int32 → Int32 → Int32 → Int32 → Int32 → xS → Option (Int32 × xS)) (k6 : ∀ {v1 : Int32} {v2 : Int32} {v3 : Int32} {v4 : Int32} {v5 : Int32} {v6 : Int32} {lv : List (Nat × Value)} {m : xS} {x : Int32 × xS}, zld lv 0 = some (.ref 11) → zld lv 1 = some (.int v1) → zld lv 2 = some (.int v2) → zld lv 3 = some (.int v3) → zld lv 4 = some (.int v4) → zld lv 5 = some (.int v5) → zld lv 6 = some (.int v6) → g6 v1 v2 v3 v4 v5 v6 m = some x → zR none e 8 (some .int) zc114 (6, lv, []) (xW B m) (some (.int x.1), xW B x.2)) {v1 : Int32} {v2 : Int32} {v3 : Int32} {v4 : Int32} {v5 : Int32} {v6 : Int32} {v7 : Int32} {w0 : Int32} {lv : List (Nat × Value)} {m : xS} {x : Int32 × xS} (l0 : zld lv 0 = some (.ref 11)) (l1 : zld lv 1 = some (.int v1)) (l2 : zld lv 2 = some (.int v2)) (l3 : zld lv 3 = some (.int v3)) (l4 : zld lv 4 = some (.int v4)) (l5 : zld lv 5 = some (.int v5)) (l6 : zld lv 6 = some (.int v6)) (l7 : zld lv 7 = some (.int v7)) (h : D114_11t_82 F g6 v1 v2 v3 v4 v5 v6 v7 w0 m = some x) : zR none e 8 (some .int) zc114 (82, lv, [.int w0]) (xW B m) (some (.int x.1), xW B x.2) := by
  unfold D114_11t_82 at h
  refine q_si (k := 2) (i := 5) (q := (.istore 5, 2, 0, 0, .null)) rfl (fun _ => rfl) (by decide) ?_
  have l0_1 : zld (zs1 lv 5 (.int w0)) 0 = some (.ref 11) := x_o1 l0 rfl rfl
  have l1_1 : zld (zs1 lv 5 (.int w0)) 1 = some (.int v1) := x_o1 l1 rfl rfl
  have l2_1 : zld (zs1 lv 5 (.int w0)) 2 = some (.int v2) := x_o1 l2 rfl rfl
  have l3_1 : zld (zs1 lv 5 (.int w0)) 3 = some (.int v3) := x_o1 l3 rfl rfl
  have l4_1 : zld (zs1 lv 5 (.int w0)) 4 = some (.int v4) := x_o1 l4 rfl rfl
  have l5_1 : zld (zs1 lv 5 (.int w0)) 5 = some (.int w0) := zs1_ld _ _ _
  have l6_1 : zld (zs1 lv 5 (.int w0)) 6 = some (.int v6) := x_o1 l6 rfl rfl
  have l7_1 : zld (zs1 lv 5 (.int w0)) 7 = some (.int v7) := x_o1 l7 rfl rfl
  generalize (zs1 lv 5 (.int w0)) = lv1 at *
  exact T114_11t_84 H he F _ k6 l0_1 l1_1 l2_1 l3_1 l4_1 l5_1 l6_1 h
def D114_11t_6 (F : Nat) : Nat → Int32 → Int32 → Int32 → Int32 → Int32 → Int32 → xS → Option (Int32 × xS)
  | 0, _, _, _, _, _, _, _ => none
  | f + 1, v1, v2, v3, v4, v5, v6, m =>
    (D80_11t F m).bind fun q9 =>
      if zcmp .ge v6 q9.1 = true then
        some (v5, q9.2)
      else
        (D89_11t F v6 0 q9.2).bind fun q19 =>
          if zcmp .ne q19.1 v2 = true then
            D114_11t_84 F (D114_11t_6 F f) v1 v2 v3 v4 v5 v6 q19.2
          else
            (D89_11t F v6 4 q19.2).bind fun q30 =>
              if zcmp .ne q30.1 (-1) = true then
                D114_11t_84 F (D114_11t_6 F f) v1 v2 v3 v4 v5 v6 q30.2
              else
                (D89_11t F v6 1 q30.2).bind fun q41 =>
                  (D87_11t F v1 1 q41.2).bind fun q47 =>
                    if zcmp .ne q41.1 q47.1 = true then
                      D114_11t_84 F (D114_11t_6 F f) v1 v2 v3 v4 v5 v6 q47.2
                    else
                      (D89_11t F v6 v3 q47.2).bind fun q57 =>
                        if zcmp .eq v4 0 = true then
                          D114_11t_82 F (D114_11t_6 F f) v1 v2 v3 v4 v5 v6 q57.1 (v5 + q57.1) q57.2
                        else
                          D114_11t_82 F (D114_11t_6 F f) v1 v2 v3 v4 v5 v6 q57.1 (if v5 < q57.1 then q57.1 else v5) q57.2
set_option maxRecDepth 20000 in
theorem T114_11t_6 {B : zHp} (H : yH0 B) {e : Nat} (he : 2 ≤ e + 1) (F : Nat) : ∀ (f : Nat) {v1 : Int32} {v2 : Int32} {v3 : Int32} {v4 : Int32} {v5 : Int32} {v6 : Int32} {lv : List (Nat × Value)} {m : xS} {x : Int32 × xS}, zld lv 0 = some (.ref 11) → zld lv 1 = some (.int v1) → zld lv 2 = some (.int v2) → zld lv 3 = some (.int v3) → zld lv 4 = some (.int v4) → zld lv 5 = some (.int v5) → zld lv 6 = some (.int v6) → D114_11t_6 F f v1 v2 v3 v4 v5 v6 m = some x → zR none e 8 (some .int) zc114 (6, lv, []) (xW B m) (some (.int x.1), xW B x.2) := by
  intro f
  induction f with
  | zero => intro v1 v2 v3 v4 v5 v6 lv m x l0 l1 l2 l3 l4 l5 l6 h; cases h
  | succ f ih =>
    intro v1 v2 v3 v4 v5 v6 lv m x l0 l1 l2 l3 l4 l5 l6 h
    unfold D114_11t_6 at h
    refine q_li (k := 2) (i := 6) (q := (.iload 6, 2, 0, 0, .null)) rfl (fun _ => rfl) l6 ?_
    refine q_lr (k := 1) (i := 0) (q := (.aload_n 0, 1, 0, 0, .null)) rfl (fun _ => rfl) l0 ?_
    obtain ⟨q9, h9, h⟩ := xbind h
    refine r_call (ix := 11) (as := []) (rest := [.int v6]) (rv := some (.int q9.1)) (hp' := xW B q9.2) (pc := 9) rfl xr80 rfl rfl rfl (xkd H (by decide)) (Nat.le_of_ble_eq_true rfl) (Z80_11t H h9 (by omega)) (Nat.le_refl _) ?_
    refine r_ifc (len := 3) (a := 90) (b := 0) (v0 := .null) (cn := .ge) (off := 78) rfl (fun c => ?_) (fun c => ?_)
    · rw [if_pos c] at h
      refine q_li (k := 2) (i := 5) (q := (.iload 5, 2, 0, 0, .null)) rfl (fun _ => rfl) l5 ?_
      obtain rfl := Option.some.inj h
      exact q_ri (q := (.ireturn, 1, 0, 0, .null)) rfl (fun _ => rfl) rfl rfl
    · rw [if_neg (by rw [c]; decide)] at h
      refine q_lr (k := 1) (i := 0) (q := (.aload_n 0, 1, 0, 0, .null)) rfl (fun _ => rfl) l0 ?_
      refine q_li (k := 2) (i := 6) (q := (.iload 6, 2, 0, 0, .null)) rfl (fun _ => rfl) l6 ?_
      refine r_s (fr' := (19, lv, [.int 0, .int v6, .ref 11])) (hp' := xW B q9.2) (q := (.iconst 0, 1, 0, 0, .null)) rfl (fun _ => rfl) (Nat.le_refl _) ?_
      obtain ⟨q19, h19, h⟩ := xbind h
      refine r_call (ix := 11) (as := [.int v6, .int 0]) (rest := []) (rv := some (.int q19.1)) (hp' := xW B q19.2) (pc := 19) rfl xr89 rfl rfl rfl (xkd H (by decide)) (Nat.le_of_ble_eq_true rfl) (Z89_11t H h19 (by omega)) (Nat.le_refl _) ?_
      refine q_li (k := 1) (i := 2) (q := (.iload_n 2, 1, 0, 0, .null)) rfl (fun _ => rfl) l2 ?_
      refine r_ifc (len := 3) (a := 84) (b := 0) (v0 := .null) (cn := .ne) (off := 61) rfl (fun c => ?_) (fun c => ?_)
      · rw [if_pos c] at h
        exact T114_11t_84 H he F _ ih l0 l1 l2 l3 l4 l5 l6 h
      · rw [if_neg (by rw [c]; decide)] at h
        refine q_lr (k := 1) (i := 0) (q := (.aload_n 0, 1, 0, 0, .null)) rfl (fun _ => rfl) l0 ?_
        refine q_li (k := 2) (i := 6) (q := (.iload 6, 2, 0, 0, .null)) rfl (fun _ => rfl) l6 ?_
        refine r_s (fr' := (30, lv, [.int 4, .int v6, .ref 11])) (hp' := xW B q19.2) (q := (.iconst 4, 1, 0, 0, .null)) rfl (fun _ => rfl) (Nat.le_refl _) ?_
        obtain ⟨q30, h30, h⟩ := xbind h
        refine r_call (ix := 11) (as := [.int v6, .int 4]) (rest := []) (rv := some (.int q30.1)) (hp' := xW B q30.2) (pc := 30) rfl xr89 rfl rfl rfl (xkd H (by decide)) (Nat.le_of_ble_eq_true rfl) (Z89_11t H h30 (by omega)) (Nat.le_refl _) ?_
        refine r_s (fr' := (34, lv, [.int (-1), .int q30.1])) (hp' := xW B q30.2) (q := (.iconst (-1), 1, 0, 0, .null)) rfl (fun _ => rfl) (Nat.le_refl _) ?_
        refine r_ifc (len := 3) (a := 84) (b := 0) (v0 := .null) (cn := .ne) (off := 50) rfl (fun c => ?_) (fun c => ?_)
        · rw [if_pos c] at h
          exact T114_11t_84 H he F _ ih l0 l1 l2 l3 l4 l5 l6 h
        · rw [if_neg (by rw [c]; decide)] at h
          refine q_lr (k := 1) (i := 0) (q := (.aload_n 0, 1, 0, 0, .null)) rfl (fun _ => rfl) l0 ?_
          refine q_li (k := 2) (i := 6) (q := (.iload 6, 2, 0, 0, .null)) rfl (fun _ => rfl) l6 ?_
          refine r_s (fr' := (41, lv, [.int 1, .int v6, .ref 11])) (hp' := xW B q30.2) (q := (.iconst 1, 1, 0, 0, .null)) rfl (fun _ => rfl) (Nat.le_refl _) ?_
          obtain ⟨q41, h41, h⟩ := xbind h
          refine r_call (ix := 11) (as := [.int v6, .int 1]) (rest := []) (rv := some (.int q41.1)) (hp' := xW B q41.2) (pc := 41) rfl xr89 rfl rfl rfl (xkd H (by decide)) (Nat.le_of_ble_eq_true rfl) (Z89_11t H h41 (by omega)) (Nat.le_refl _) ?_
          refine q_lr (k := 1) (i := 0) (q := (.aload_n 0, 1, 0, 0, .null)) rfl (fun _ => rfl) l0 ?_
          refine q_li (k := 1) (i := 1) (q := (.iload_n 1, 1, 0, 0, .null)) rfl (fun _ => rfl) l1 ?_
          refine r_s (fr' := (47, lv, [.int 1, .int v1, .ref 11, .int q41.1])) (hp' := xW B q41.2) (q := (.iconst 1, 1, 0, 0, .null)) rfl (fun _ => rfl) (Nat.le_refl _) ?_
          obtain ⟨q47, h47, h⟩ := xbind h
          refine r_call (ix := 11) (as := [.int v1, .int 1]) (rest := [.int q41.1]) (rv := some (.int q47.1)) (hp' := xW B q47.2) (pc := 47) rfl xr87 rfl rfl rfl (xkd H (by decide)) (Nat.le_of_ble_eq_true rfl) (Z87_11t H h47 (by omega)) (Nat.le_refl _) ?_
          refine r_ifc (len := 3) (a := 84) (b := 0) (v0 := .null) (cn := .ne) (off := 34) rfl (fun c => ?_) (fun c => ?_)
          · rw [if_pos c] at h
            exact T114_11t_84 H he F _ ih l0 l1 l2 l3 l4 l5 l6 h
          · rw [if_neg (by rw [c]; decide)] at h
            refine q_lr (k := 1) (i := 0) (q := (.aload_n 0, 1, 0, 0, .null)) rfl (fun _ => rfl) l0 ?_
            refine q_li (k := 2) (i := 6) (q := (.iload 6, 2, 0, 0, .null)) rfl (fun _ => rfl) l6 ?_
            refine q_li (k := 1) (i := 3) (q := (.iload_n 3, 1, 0, 0, .null)) rfl (fun _ => rfl) l3 ?_
            obtain ⟨q57, h57, h⟩ := xbind h
            refine r_call (ix := 11) (as := [.int v6, .int v3]) (rest := []) (rv := some (.int q57.1)) (hp' := xW B q57.2) (pc := 57) rfl xr89 rfl rfl rfl (xkd H (by decide)) (Nat.le_of_ble_eq_true rfl) (Z89_11t H h57 (by omega)) (Nat.le_refl _) ?_
            refine q_si (k := 2) (i := 7) (q := (.istore 7, 2, 0, 0, .null)) rfl (fun _ => rfl) (by decide) ?_
            have l0_1 : zld (zs1 lv 7 (.int q57.1)) 0 = some (.ref 11) := x_o1 l0 rfl rfl
            have l1_1 : zld (zs1 lv 7 (.int q57.1)) 1 = some (.int v1) := x_o1 l1 rfl rfl
            have l2_1 : zld (zs1 lv 7 (.int q57.1)) 2 = some (.int v2) := x_o1 l2 rfl rfl
            have l3_1 : zld (zs1 lv 7 (.int q57.1)) 3 = some (.int v3) := x_o1 l3 rfl rfl
            have l4_1 : zld (zs1 lv 7 (.int q57.1)) 4 = some (.int v4) := x_o1 l4 rfl rfl
            have l5_1 : zld (zs1 lv 7 (.int q57.1)) 5 = some (.int v5) := x_o1 l5 rfl rfl
            have l6_1 : zld (zs1 lv 7 (.int q57.1)) 6 = some (.int v6) := x_o1 l6 rfl rfl
            have l7_1 : zld (zs1 lv 7 (.int q57.1)) 7 = some (.int q57.1) := zs1_ld _ _ _
            generalize (zs1 lv 7 (.int q57.1)) = lv1 at *
            refine q_li (k := 2) (i := 4) (q := (.iload 4, 2, 0, 0, .null)) rfl (fun _ => rfl) l4_1 ?_
            refine r_if (len := 3) (a := 77) (b := 0) (v0 := .null) (cn := .eq) (off := 13) rfl (fun c => ?_) (fun c => ?_)
            · rw [if_pos c] at h
              refine q_li (k := 2) (i := 5) (q := (.iload 5, 2, 0, 0, .null)) rfl (fun _ => rfl) l5_1 ?_
              refine q_li (k := 2) (i := 7) (q := (.iload 7, 2, 0, 0, .null)) rfl (fun _ => rfl) l7_1 ?_
              refine r_s (fr' := (82, lv1, [.int (v5 + q57.1)])) (hp' := xW B q57.2) (q := (.iadd, 1, 0, 0, .null)) rfl (fun _ => rfl) (Nat.le_refl _) ?_
              exact T114_11t_82 H he F _ ih l0_1 l1_1 l2_1 l3_1 l4_1 l5_1 l6_1 l7_1 h
            · rw [if_neg (by rw [c]; decide)] at h
              refine q_li (k := 2) (i := 5) (q := (.iload 5, 2, 0, 0, .null)) rfl (fun _ => rfl) l5_1 ?_
              refine q_li (k := 2) (i := 7) (q := (.iload 7, 2, 0, 0, .null)) rfl (fun _ => rfl) l7_1 ?_
              refine r_s (fr' := (74, lv1, [.int (if v5 < q57.1 then q57.1 else v5)])) (hp' := xW B q57.2) (q := (.invokestatic 66, 3, 0, 2, .null)) rfl (fun _ => rfl) (Nat.le_refl _) ?_
              refine r_s (fr' := (82, lv1, [.int (if v5 < q57.1 then q57.1 else v5)])) (hp' := xW B q57.2) (q := (.goto 8, 3, 82, 0, .null)) rfl (fun _ => rfl) (Nat.le_refl _) ?_
              exact T114_11t_82 H he F _ ih l0_1 l1_1 l2_1 l3_1 l4_1 l5_1 l6_1 l7_1 h
def D114_11t (F : Nat) (v1 : Int32) (v2 : Int32) (v3 : Int32) (v4 : Int32) (m : xS) : Option (Int32 × xS) :=
  D114_11t_6 F F v1 v2 v3 v4 0 0 m
set_option maxRecDepth 20000 in
theorem T114_11t {B : zHp} (H : yH0 B) {e : Nat} (he : 2 ≤ e + 1) (F : Nat) {v1 : Int32} {v2 : Int32} {v3 : Int32} {v4 : Int32} {lv : List (Nat × Value)} {m : xS} {x : Int32 × xS} (l0 : zld lv 0 = some (.ref 11)) (l1 : zld lv 1 = some (.int v1)) (l2 : zld lv 2 = some (.int v2)) (l3 : zld lv 3 = some (.int v3)) (l4 : zld lv 4 = some (.int v4)) (h : D114_11t F v1 v2 v3 v4 m = some x) : zR none e 8 (some .int) zc114 (0, lv, []) (xW B m) (some (.int x.1), xW B x.2) := by
  unfold D114_11t at h
  refine r_s (fr' := (1, lv, [.int 0])) (hp' := xW B m) (q := (.iconst 0, 1, 0, 0, .null)) rfl (fun _ => rfl) (Nat.le_refl _) ?_
  refine q_si (k := 2) (i := 5) (q := (.istore 5, 2, 0, 0, .null)) rfl (fun _ => rfl) (by decide) ?_
  have l0_1 : zld (zs1 lv 5 (.int 0)) 0 = some (.ref 11) := x_o1 l0 rfl rfl
  have l1_1 : zld (zs1 lv 5 (.int 0)) 1 = some (.int v1) := x_o1 l1 rfl rfl
  have l2_1 : zld (zs1 lv 5 (.int 0)) 2 = some (.int v2) := x_o1 l2 rfl rfl
  have l3_1 : zld (zs1 lv 5 (.int 0)) 3 = some (.int v3) := x_o1 l3 rfl rfl
  have l4_1 : zld (zs1 lv 5 (.int 0)) 4 = some (.int v4) := x_o1 l4 rfl rfl
  have l5_1 : zld (zs1 lv 5 (.int 0)) 5 = some (.int 0) := zs1_ld _ _ _
  generalize (zs1 lv 5 (.int 0)) = lv1 at *
  refine r_s (fr' := (4, lv1, [.int 0])) (hp' := xW B m) (q := (.iconst 0, 1, 0, 0, .null)) rfl (fun _ => rfl) (Nat.le_refl _) ?_
  refine q_si (k := 2) (i := 6) (q := (.istore 6, 2, 0, 0, .null)) rfl (fun _ => rfl) (by decide) ?_
  have l0_2 : zld (zs1 lv1 6 (.int 0)) 0 = some (.ref 11) := x_o1 l0_1 rfl rfl
  have l1_2 : zld (zs1 lv1 6 (.int 0)) 1 = some (.int v1) := x_o1 l1_1 rfl rfl
  have l2_2 : zld (zs1 lv1 6 (.int 0)) 2 = some (.int v2) := x_o1 l2_1 rfl rfl
  have l3_2 : zld (zs1 lv1 6 (.int 0)) 3 = some (.int v3) := x_o1 l3_1 rfl rfl
  have l4_2 : zld (zs1 lv1 6 (.int 0)) 4 = some (.int v4) := x_o1 l4_1 rfl rfl
  have l5_2 : zld (zs1 lv1 6 (.int 0)) 5 = some (.int 0) := x_o1 l5_1 rfl rfl
  have l6_2 : zld (zs1 lv1 6 (.int 0)) 6 = some (.int 0) := zs1_ld _ _ _
  generalize (zs1 lv1 6 (.int 0)) = lv2 at *
  exact T114_11t_6 H he F F l0_2 l1_2 l2_2 l3_2 l4_2 l5_2 l6_2 h
set_option maxRecDepth 20000 in
theorem Z114_11t {B : zHp} (H : yH0 B) {F : Nat} {a1 : Int32} {a2 : Int32} {a3 : Int32} {a4 : Int32} {m : xS} {x : Int32 × xS} (h : D114_11t F a1 a2 a3 a4 m = some x) {d : Nat} (hd : 2 ≤ d) : zCan d 114 [.ref 11, .int a1, .int a2, .int a3, .int a4] (xW B m) (some (.int x.1), xW B x.2) := by
  obtain ⟨e, rfl⟩ : ∃ e, d = e + 1 := ⟨d - 1, by omega⟩
  refine zCan_body (nL := 8) (rt := (some .int)) (cd := zc114) (xg114) ⟨Nat.le_of_ble_eq_true rfl, by decide⟩ (Nat.le_refl _) ?_
  exact T114_11t H hd F rfl rfl rfl rfl rfl h
/-- LentTools$Rule.wordFor -/
def D31_11t (F : Nat) (v0 : Int32) (v2 : Int32) (v3 : Int32) (m : xS) : Option (Int32 × xS) :=
  (D87_11t F v2 3 m).bind fun q3 =>
    if (v0 == 0) = true then
      some (v2, q3.2)
    else
      if (v0 == 1) = true then
        (D87_11t F v2 1 q3.2).bind fun q77 =>
          some (q77.1, q77.2)
      else
        if (v0 == 2) = true then
          (D87_11t F v2 0 q3.2).bind fun q84 =>
            some (q84.1, q84.2)
        else
          if (v0 == 3) = true then
            some (q3.1, q3.2)
          else
            if (v0 == 4) = true then
              some (v3, q3.2)
            else
              if (v0 == 5) = true then
                (D87_11t F v2 4 q3.2).bind fun q96 =>
                  some (q96.1, q96.2)
              else
                if (v0 == 6) = true then
                  (D100_11t F v2 1 q3.2).bind fun q103 =>
                    some (q103.1, q103.2)
                else
                  if (v0 == 7) = true then
                    (D87_11t F v2 5 q3.2).bind fun q110 =>
                      some (q110.1, q110.2)
                  else
                    if (v0 == 8) = true then
                      (D81_11t F q3.2).bind fun q115 =>
                        some (q115.1, q115.2)
                    else
                      if (v0 == 9) = true then
                        (D114_11t F v2 v3 2 1 q3.2).bind fun q124 =>
                          some (q124.1, q124.2)
                      else
                        if (v0 == 10) = true then
                          (D114_11t F v2 v3 3 0 q3.2).bind fun q133 =>
                            some (q133.1, q133.2)
                        else
                          if (v0 == 11) = true then
                            (D94_11t F v3 q3.1 q3.2).bind fun q141 =>
                              some (q141.1, q141.2)
                          else
                            (D92_11t F v3 q3.1 q3.2).bind fun q149 =>
                              if zcmp .eq q149.1 0 = true then
                                some (0, q149.2)
                              else
                                some (1, q149.2)
set_option maxRecDepth 20000 in
theorem T31_11t {B : zHp} (H : yH0 B) {e : Nat} (he : 4 ≤ e + 1) (F : Nat) {v0 : Int32} {v2 : Int32} {v3 : Int32} {lv : List (Nat × Value)} {m : xS} {x : Int32 × xS} (l0 : zld lv 0 = some (.int v0)) (l1 : zld lv 1 = some (.ref 11)) (l2 : zld lv 2 = some (.int v2)) (l3 : zld lv 3 = some (.int v3)) (h : D31_11t F v0 v2 v3 m = some x) : zR none e 5 (some .int) zc31 (0, lv, []) (xW B m) (some (.int x.1), xW B x.2) := by
  unfold D31_11t at h
  refine q_lr (k := 1) (i := 1) (q := (.aload_n 1, 1, 0, 0, .null)) rfl (fun _ => rfl) l1 ?_
  refine q_li (k := 1) (i := 2) (q := (.iload_n 2, 1, 0, 0, .null)) rfl (fun _ => rfl) l2 ?_
  refine r_s (fr' := (3, lv, [.int 3, .int v2, .ref 11])) (hp' := xW B m) (q := (.iconst 3, 1, 0, 0, .null)) rfl (fun _ => rfl) (Nat.le_refl _) ?_
  obtain ⟨q3, h3, h⟩ := xbind h
  refine r_call (ix := 11) (as := [.int v2, .int 3]) (rest := []) (rv := some (.int q3.1)) (hp' := xW B q3.2) (pc := 3) rfl xr87 rfl rfl rfl (xkd H (by decide)) (Nat.le_of_ble_eq_true rfl) (Z87_11t H h3 (by omega)) (Nat.le_refl _) ?_
  refine q_si (k := 2) (i := 4) (q := (.istore 4, 2, 0, 0, .null)) rfl (fun _ => rfl) (by decide) ?_
  have l0_1 : zld (zs1 lv 4 (.int q3.1)) 0 = some (.int v0) := x_o1 l0 rfl rfl
  have l1_1 : zld (zs1 lv 4 (.int q3.1)) 1 = some (.ref 11) := x_o1 l1 rfl rfl
  have l2_1 : zld (zs1 lv 4 (.int q3.1)) 2 = some (.int v2) := x_o1 l2 rfl rfl
  have l3_1 : zld (zs1 lv 4 (.int q3.1)) 3 = some (.int v3) := x_o1 l3 rfl rfl
  have l4_1 : zld (zs1 lv 4 (.int q3.1)) 4 = some (.int q3.1) := zs1_ld _ _ _
  generalize (zs1 lv 4 (.int q3.1)) = lv1 at *
  refine q_li (k := 1) (i := 0) (q := (.iload_n 0, 1, 0, 0, .null)) rfl (fun _ => rfl) l0_1 ?_
  by_cases d2 : ((v0 == 0)) = true
  · rw [if_pos d2] at h
    refine q_sw (pc2 := 72) (q := (.tableswitch 136 0 11 #[63, 65, 72, 79, 82, 84, 91, 98, 105, 110, 119, 128], 63, 0, 0, .null)) d2 rfl (fun _ => rfl) ?_
    refine q_li (k := 1) (i := 2) (q := (.iload_n 2, 1, 0, 0, .null)) rfl (fun _ => rfl) l2_1 ?_
    obtain rfl := Option.some.inj h
    exact q_ri (q := (.ireturn, 1, 0, 0, .null)) rfl (fun _ => rfl) rfl rfl
  · rw [if_neg d2] at h
    by_cases d3 : ((v0 == 1)) = true
    · rw [if_pos d3] at h
      refine q_sw (pc2 := 74) (q := (.tableswitch 136 0 11 #[63, 65, 72, 79, 82, 84, 91, 98, 105, 110, 119, 128], 63, 0, 0, .null)) d3 rfl (fun _ => rfl) ?_
      refine q_lr (k := 1) (i := 1) (q := (.aload_n 1, 1, 0, 0, .null)) rfl (fun _ => rfl) l1_1 ?_
      refine q_li (k := 1) (i := 2) (q := (.iload_n 2, 1, 0, 0, .null)) rfl (fun _ => rfl) l2_1 ?_
      refine r_s (fr' := (77, lv1, [.int 1, .int v2, .ref 11])) (hp' := xW B q3.2) (q := (.iconst 1, 1, 0, 0, .null)) rfl (fun _ => rfl) (Nat.le_refl _) ?_
      obtain ⟨q77, h77, h⟩ := xbind h
      refine r_call (ix := 11) (as := [.int v2, .int 1]) (rest := []) (rv := some (.int q77.1)) (hp' := xW B q77.2) (pc := 77) rfl xr87 rfl rfl rfl (xkd H (by decide)) (Nat.le_of_ble_eq_true rfl) (Z87_11t H h77 (by omega)) (Nat.le_refl _) ?_
      obtain rfl := Option.some.inj h
      exact q_ri (q := (.ireturn, 1, 0, 0, .null)) rfl (fun _ => rfl) rfl rfl
    · rw [if_neg d3] at h
      by_cases d4 : ((v0 == 2)) = true
      · rw [if_pos d4] at h
        refine q_sw (pc2 := 81) (q := (.tableswitch 136 0 11 #[63, 65, 72, 79, 82, 84, 91, 98, 105, 110, 119, 128], 63, 0, 0, .null)) d4 rfl (fun _ => rfl) ?_
        refine q_lr (k := 1) (i := 1) (q := (.aload_n 1, 1, 0, 0, .null)) rfl (fun _ => rfl) l1_1 ?_
        refine q_li (k := 1) (i := 2) (q := (.iload_n 2, 1, 0, 0, .null)) rfl (fun _ => rfl) l2_1 ?_
        refine r_s (fr' := (84, lv1, [.int 0, .int v2, .ref 11])) (hp' := xW B q3.2) (q := (.iconst 0, 1, 0, 0, .null)) rfl (fun _ => rfl) (Nat.le_refl _) ?_
        obtain ⟨q84, h84, h⟩ := xbind h
        refine r_call (ix := 11) (as := [.int v2, .int 0]) (rest := []) (rv := some (.int q84.1)) (hp' := xW B q84.2) (pc := 84) rfl xr87 rfl rfl rfl (xkd H (by decide)) (Nat.le_of_ble_eq_true rfl) (Z87_11t H h84 (by omega)) (Nat.le_refl _) ?_
        obtain rfl := Option.some.inj h
        exact q_ri (q := (.ireturn, 1, 0, 0, .null)) rfl (fun _ => rfl) rfl rfl
      · rw [if_neg d4] at h
        by_cases d5 : ((v0 == 3)) = true
        · rw [if_pos d5] at h
          refine q_sw (pc2 := 88) (q := (.tableswitch 136 0 11 #[63, 65, 72, 79, 82, 84, 91, 98, 105, 110, 119, 128], 63, 0, 0, .null)) d5 rfl (fun _ => rfl) ?_
          refine q_li (k := 2) (i := 4) (q := (.iload 4, 2, 0, 0, .null)) rfl (fun _ => rfl) l4_1 ?_
          obtain rfl := Option.some.inj h
          exact q_ri (q := (.ireturn, 1, 0, 0, .null)) rfl (fun _ => rfl) rfl rfl
        · rw [if_neg d5] at h
          by_cases d6 : ((v0 == 4)) = true
          · rw [if_pos d6] at h
            refine q_sw (pc2 := 91) (q := (.tableswitch 136 0 11 #[63, 65, 72, 79, 82, 84, 91, 98, 105, 110, 119, 128], 63, 0, 0, .null)) d6 rfl (fun _ => rfl) ?_
            refine q_li (k := 1) (i := 3) (q := (.iload_n 3, 1, 0, 0, .null)) rfl (fun _ => rfl) l3_1 ?_
            obtain rfl := Option.some.inj h
            exact q_ri (q := (.ireturn, 1, 0, 0, .null)) rfl (fun _ => rfl) rfl rfl
          · rw [if_neg d6] at h
            by_cases d7 : ((v0 == 5)) = true
            · rw [if_pos d7] at h
              refine q_sw (pc2 := 93) (q := (.tableswitch 136 0 11 #[63, 65, 72, 79, 82, 84, 91, 98, 105, 110, 119, 128], 63, 0, 0, .null)) d7 rfl (fun _ => rfl) ?_
              refine q_lr (k := 1) (i := 1) (q := (.aload_n 1, 1, 0, 0, .null)) rfl (fun _ => rfl) l1_1 ?_
              refine q_li (k := 1) (i := 2) (q := (.iload_n 2, 1, 0, 0, .null)) rfl (fun _ => rfl) l2_1 ?_
              refine r_s (fr' := (96, lv1, [.int 4, .int v2, .ref 11])) (hp' := xW B q3.2) (q := (.iconst 4, 1, 0, 0, .null)) rfl (fun _ => rfl) (Nat.le_refl _) ?_
              obtain ⟨q96, h96, h⟩ := xbind h
              refine r_call (ix := 11) (as := [.int v2, .int 4]) (rest := []) (rv := some (.int q96.1)) (hp' := xW B q96.2) (pc := 96) rfl xr87 rfl rfl rfl (xkd H (by decide)) (Nat.le_of_ble_eq_true rfl) (Z87_11t H h96 (by omega)) (Nat.le_refl _) ?_
              obtain rfl := Option.some.inj h
              exact q_ri (q := (.ireturn, 1, 0, 0, .null)) rfl (fun _ => rfl) rfl rfl
            · rw [if_neg d7] at h
              by_cases d8 : ((v0 == 6)) = true
              · rw [if_pos d8] at h
                refine q_sw (pc2 := 100) (q := (.tableswitch 136 0 11 #[63, 65, 72, 79, 82, 84, 91, 98, 105, 110, 119, 128], 63, 0, 0, .null)) d8 rfl (fun _ => rfl) ?_
                refine q_lr (k := 1) (i := 1) (q := (.aload_n 1, 1, 0, 0, .null)) rfl (fun _ => rfl) l1_1 ?_
                refine q_li (k := 1) (i := 2) (q := (.iload_n 2, 1, 0, 0, .null)) rfl (fun _ => rfl) l2_1 ?_
                refine r_s (fr' := (103, lv1, [.int 1, .int v2, .ref 11])) (hp' := xW B q3.2) (q := (.iconst 1, 1, 0, 0, .null)) rfl (fun _ => rfl) (Nat.le_refl _) ?_
                obtain ⟨q103, h103, h⟩ := xbind h
                refine r_call (ix := 11) (as := [.int v2, .int 1]) (rest := []) (rv := some (.int q103.1)) (hp' := xW B q103.2) (pc := 103) rfl xr100 rfl rfl rfl (xkd H (by decide)) (Nat.le_of_ble_eq_true rfl) (Z100_11t H h103 (by omega)) (Nat.le_refl _) ?_
                obtain rfl := Option.some.inj h
                exact q_ri (q := (.ireturn, 1, 0, 0, .null)) rfl (fun _ => rfl) rfl rfl
              · rw [if_neg d8] at h
                by_cases d9 : ((v0 == 7)) = true
                · rw [if_pos d9] at h
                  refine q_sw (pc2 := 107) (q := (.tableswitch 136 0 11 #[63, 65, 72, 79, 82, 84, 91, 98, 105, 110, 119, 128], 63, 0, 0, .null)) d9 rfl (fun _ => rfl) ?_
                  refine q_lr (k := 1) (i := 1) (q := (.aload_n 1, 1, 0, 0, .null)) rfl (fun _ => rfl) l1_1 ?_
                  refine q_li (k := 1) (i := 2) (q := (.iload_n 2, 1, 0, 0, .null)) rfl (fun _ => rfl) l2_1 ?_
                  refine r_s (fr' := (110, lv1, [.int 5, .int v2, .ref 11])) (hp' := xW B q3.2) (q := (.iconst 5, 1, 0, 0, .null)) rfl (fun _ => rfl) (Nat.le_refl _) ?_
                  obtain ⟨q110, h110, h⟩ := xbind h
                  refine r_call (ix := 11) (as := [.int v2, .int 5]) (rest := []) (rv := some (.int q110.1)) (hp' := xW B q110.2) (pc := 110) rfl xr87 rfl rfl rfl (xkd H (by decide)) (Nat.le_of_ble_eq_true rfl) (Z87_11t H h110 (by omega)) (Nat.le_refl _) ?_
                  obtain rfl := Option.some.inj h
                  exact q_ri (q := (.ireturn, 1, 0, 0, .null)) rfl (fun _ => rfl) rfl rfl
                · rw [if_neg d9] at h
                  by_cases d10 : ((v0 == 8)) = true
                  · rw [if_pos d10] at h
                    refine q_sw (pc2 := 114) (q := (.tableswitch 136 0 11 #[63, 65, 72, 79, 82, 84, 91, 98, 105, 110, 119, 128], 63, 0, 0, .null)) d10 rfl (fun _ => rfl) ?_
                    refine q_lr (k := 1) (i := 1) (q := (.aload_n 1, 1, 0, 0, .null)) rfl (fun _ => rfl) l1_1 ?_
                    obtain ⟨q115, h115, h⟩ := xbind h
                    refine r_call (ix := 11) (as := []) (rest := []) (rv := some (.int q115.1)) (hp' := xW B q115.2) (pc := 115) rfl xr81 rfl rfl rfl (xkd H (by decide)) (Nat.le_of_ble_eq_true rfl) (Z81_11t H h115 (by omega)) (Nat.le_refl _) ?_
                    obtain rfl := Option.some.inj h
                    exact q_ri (q := (.ireturn, 1, 0, 0, .null)) rfl (fun _ => rfl) rfl rfl
                  · rw [if_neg d10] at h
                    by_cases d11 : ((v0 == 9)) = true
                    · rw [if_pos d11] at h
                      refine q_sw (pc2 := 119) (q := (.tableswitch 136 0 11 #[63, 65, 72, 79, 82, 84, 91, 98, 105, 110, 119, 128], 63, 0, 0, .null)) d11 rfl (fun _ => rfl) ?_
                      refine q_lr (k := 1) (i := 1) (q := (.aload_n 1, 1, 0, 0, .null)) rfl (fun _ => rfl) l1_1 ?_
                      refine q_li (k := 1) (i := 2) (q := (.iload_n 2, 1, 0, 0, .null)) rfl (fun _ => rfl) l2_1 ?_
                      refine q_li (k := 1) (i := 3) (q := (.iload_n 3, 1, 0, 0, .null)) rfl (fun _ => rfl) l3_1 ?_
                      refine r_s (fr' := (123, lv1, [.int 2, .int v3, .int v2, .ref 11])) (hp' := xW B q3.2) (q := (.iconst 2, 1, 0, 0, .null)) rfl (fun _ => rfl) (Nat.le_refl _) ?_
                      refine r_s (fr' := (124, lv1, [.int 1, .int 2, .int v3, .int v2, .ref 11])) (hp' := xW B q3.2) (q := (.iconst 1, 1, 0, 0, .null)) rfl (fun _ => rfl) (Nat.le_refl _) ?_
                      obtain ⟨q124, h124, h⟩ := xbind h
                      refine r_call (ix := 11) (as := [.int v2, .int v3, .int 2, .int 1]) (rest := []) (rv := some (.int q124.1)) (hp' := xW B q124.2) (pc := 124) rfl xr114 rfl rfl rfl (xkd H (by decide)) (Nat.le_of_ble_eq_true rfl) (Z114_11t H h124 (by omega)) (Nat.le_refl _) ?_
                      obtain rfl := Option.some.inj h
                      exact q_ri (q := (.ireturn, 1, 0, 0, .null)) rfl (fun _ => rfl) rfl rfl
                    · rw [if_neg d11] at h
                      by_cases d12 : ((v0 == 10)) = true
                      · rw [if_pos d12] at h
                        refine q_sw (pc2 := 128) (q := (.tableswitch 136 0 11 #[63, 65, 72, 79, 82, 84, 91, 98, 105, 110, 119, 128], 63, 0, 0, .null)) d12 rfl (fun _ => rfl) ?_
                        refine q_lr (k := 1) (i := 1) (q := (.aload_n 1, 1, 0, 0, .null)) rfl (fun _ => rfl) l1_1 ?_
                        refine q_li (k := 1) (i := 2) (q := (.iload_n 2, 1, 0, 0, .null)) rfl (fun _ => rfl) l2_1 ?_
                        refine q_li (k := 1) (i := 3) (q := (.iload_n 3, 1, 0, 0, .null)) rfl (fun _ => rfl) l3_1 ?_
                        refine r_s (fr' := (132, lv1, [.int 3, .int v3, .int v2, .ref 11])) (hp' := xW B q3.2) (q := (.iconst 3, 1, 0, 0, .null)) rfl (fun _ => rfl) (Nat.le_refl _) ?_
                        refine r_s (fr' := (133, lv1, [.int 0, .int 3, .int v3, .int v2, .ref 11])) (hp' := xW B q3.2) (q := (.iconst 0, 1, 0, 0, .null)) rfl (fun _ => rfl) (Nat.le_refl _) ?_
                        obtain ⟨q133, h133, h⟩ := xbind h
                        refine r_call (ix := 11) (as := [.int v2, .int v3, .int 3, .int 0]) (rest := []) (rv := some (.int q133.1)) (hp' := xW B q133.2) (pc := 133) rfl xr114 rfl rfl rfl (xkd H (by decide)) (Nat.le_of_ble_eq_true rfl) (Z114_11t H h133 (by omega)) (Nat.le_refl _) ?_
                        obtain rfl := Option.some.inj h
                        exact q_ri (q := (.ireturn, 1, 0, 0, .null)) rfl (fun _ => rfl) rfl rfl
                      · rw [if_neg d12] at h
                        by_cases d13 : ((v0 == 11)) = true
                        · rw [if_pos d13] at h
                          refine q_sw (pc2 := 137) (q := (.tableswitch 136 0 11 #[63, 65, 72, 79, 82, 84, 91, 98, 105, 110, 119, 128], 63, 0, 0, .null)) d13 rfl (fun _ => rfl) ?_
                          refine q_lr (k := 1) (i := 1) (q := (.aload_n 1, 1, 0, 0, .null)) rfl (fun _ => rfl) l1_1 ?_
                          refine q_li (k := 1) (i := 3) (q := (.iload_n 3, 1, 0, 0, .null)) rfl (fun _ => rfl) l3_1 ?_
                          refine q_li (k := 2) (i := 4) (q := (.iload 4, 2, 0, 0, .null)) rfl (fun _ => rfl) l4_1 ?_
                          obtain ⟨q141, h141, h⟩ := xbind h
                          refine r_call (ix := 11) (as := [.int v3, .int q3.1]) (rest := []) (rv := some (.int q141.1)) (hp' := xW B q141.2) (pc := 141) rfl xr94 rfl rfl rfl (xkd H (by decide)) (Nat.le_of_ble_eq_true rfl) (Z94_11t H h141 (by omega)) (Nat.le_refl _) ?_
                          obtain rfl := Option.some.inj h
                          exact q_ri (q := (.ireturn, 1, 0, 0, .null)) rfl (fun _ => rfl) rfl rfl
                        · rw [if_neg d13] at h
                          refine q_td (pc2 := 145) (q := (.tableswitch 136 0 11 #[63, 65, 72, 79, 82, 84, 91, 98, 105, 110, 119, 128], 63, 0, 0, .null)) (dflt := 136) (lo := 0) (hi := 11) (offs := #[63, 65, 72, 79, 82, 84, 91, 98, 105, 110, 119, 128]) (by have z0 := xne (z := 0) rfl d2; have z1 := xne (z := 1) rfl d3; have z2 := xne (z := 2) rfl d4; have z3 := xne (z := 3) rfl d5; have z4 := xne (z := 4) rfl d6; have z5 := xne (z := 5) rfl d7; have z6 := xne (z := 6) rfl d8; have z7 := xne (z := 7) rfl d9; have z8 := xne (z := 8) rfl d10; have z9 := xne (z := 9) rfl d11; have z10 := xne (z := 10) rfl d12; have z11 := xne (z := 11) rfl d13; omega) rfl (fun _ => rfl) rfl ?_
                          refine q_lr (k := 1) (i := 1) (q := (.aload_n 1, 1, 0, 0, .null)) rfl (fun _ => rfl) l1_1 ?_
                          refine q_li (k := 1) (i := 3) (q := (.iload_n 3, 1, 0, 0, .null)) rfl (fun _ => rfl) l3_1 ?_
                          refine q_li (k := 2) (i := 4) (q := (.iload 4, 2, 0, 0, .null)) rfl (fun _ => rfl) l4_1 ?_
                          obtain ⟨q149, h149, h⟩ := xbind h
                          refine r_call (ix := 11) (as := [.int v3, .int q3.1]) (rest := []) (rv := some (.int q149.1)) (hp' := xW B q149.2) (pc := 149) rfl xr92 rfl rfl rfl (xkd H (by decide)) (Nat.le_of_ble_eq_true rfl) (Z92_11t H h149 (by omega)) (Nat.le_refl _) ?_
                          refine r_if (len := 3) (a := 159) (b := 0) (v0 := .null) (cn := .eq) (off := 7) rfl (fun c => ?_) (fun c => ?_)
                          · rw [if_pos c] at h
                            refine r_s (fr' := (160, lv1, [.int 0])) (hp' := xW B q149.2) (q := (.iconst 0, 1, 0, 0, .null)) rfl (fun _ => rfl) (Nat.le_refl _) ?_
                            obtain rfl := Option.some.inj h
                            exact q_ri (q := (.ireturn, 1, 0, 0, .null)) rfl (fun _ => rfl) rfl rfl
                          · rw [if_neg (by rw [c]; decide)] at h
                            refine r_s (fr' := (156, lv1, [.int 1])) (hp' := xW B q149.2) (q := (.iconst 1, 1, 0, 0, .null)) rfl (fun _ => rfl) (Nat.le_refl _) ?_
                            refine r_s (fr' := (160, lv1, [.int 1])) (hp' := xW B q149.2) (q := (.goto 4, 3, 160, 0, .null)) rfl (fun _ => rfl) (Nat.le_refl _) ?_
                            obtain rfl := Option.some.inj h
                            exact q_ri (q := (.ireturn, 1, 0, 0, .null)) rfl (fun _ => rfl) rfl rfl
set_option maxRecDepth 20000 in
theorem Z31_11t {B : zHp} (H : yH0 B) {F : Nat} {a0 : Int32} {a2 : Int32} {a3 : Int32} {m : xS} {x : Int32 × xS} (h : D31_11t F a0 a2 a3 m = some x) {d : Nat} (hd : 4 ≤ d) : zCan d 31 [.int a0, .ref 11, .int a2, .int a3] (xW B m) (some (.int x.1), xW B x.2) := by
  obtain ⟨e, rfl⟩ : ∃ e, d = e + 1 := ⟨d - 1, by omega⟩
  refine zCan_body (nL := 5) (rt := (some .int)) (cd := zc31) (xg31) ⟨Nat.le_of_ble_eq_true rfl, by decide⟩ (Nat.le_refl _) ?_
  exact T31_11t H hd F rfl rfl rfl rfl h
/-- LentTools$Rule.sumFor -/
def D28_R_11t_198 (F : Nat) (r0 nn : Nat) (g6 : Int32 → Int32 → Int32 → Int32 → xS → Option (Int64 × xS)) (v2 : Int32) (v3 : Int32) (v4 : Int32) (v5 : Int32) (v6 : Int32) (m : xS) : Option (Int64 × xS) :=
  g6 v2 v3 v4 (v5 + Int32.ofInt 1) m
set_option maxRecDepth 20000 in
theorem T28_R_11t_198 {B : zHp} (H : yH0 B) {e : Nat} (he : 5 ≤ e + 1) (F : Nat) (r0 nn : Nat) (hr0 : rlB B r0 nn) (g6 : Int32 → Int32 → Int32 → Int32 → xS → Option (Int64 × xS)) (k6 : ∀ {v2 : Int32} {v3 : Int32} {v4 : Int32} {v5 : Int32} {lv : List (Nat × Value)} {m : xS} {x : Int64 × xS}, zld lv 0 = some (.ref r0) → zld lv 1 = some (.ref 11) → zld lv 2 = some (.int v2) → zld lv 3 = some (.int v3) → zld lv 4 = some (.int v4) → zld lv 5 = some (.int v5) → g6 v2 v3 v4 v5 m = some x → zR none e 7 (some .long) zc28 (6, lv, []) (xW B m) (some (.long x.1), xW B x.2)) {v2 : Int32} {v3 : Int32} {v4 : Int32} {v5 : Int32} {v6 : Int32} {lv : List (Nat × Value)} {m : xS} {x : Int64 × xS} (l0 : zld lv 0 = some (.ref r0)) (l1 : zld lv 1 = some (.ref 11)) (l2 : zld lv 2 = some (.int v2)) (l3 : zld lv 3 = some (.int v3)) (l4 : zld lv 4 = some (.int v4)) (l5 : zld lv 5 = some (.int v5)) (l6 : zld lv 6 = some (.int v6)) (h : D28_R_11t_198 F r0 nn g6 v2 v3 v4 v5 v6 m = some x) : zR none e 7 (some .long) zc28 (198, lv, []) (xW B m) (some (.long x.1), xW B x.2) := by
  unfold D28_R_11t_198 at h
  refine q_inc (i := 5) (n := 1) (q := (.iinc 5 1, 3, 0, 0, .null)) rfl (fun _ => rfl) l5 (by decide) ?_
  have l0_1 : zld (zs1 lv 5 (.int (v5 + Int32.ofInt 1))) 0 = some (.ref r0) := x_o1 l0 rfl rfl
  have l1_1 : zld (zs1 lv 5 (.int (v5 + Int32.ofInt 1))) 1 = some (.ref 11) := x_o1 l1 rfl rfl
  have l2_1 : zld (zs1 lv 5 (.int (v5 + Int32.ofInt 1))) 2 = some (.int v2) := x_o1 l2 rfl rfl
  have l3_1 : zld (zs1 lv 5 (.int (v5 + Int32.ofInt 1))) 3 = some (.int v3) := x_o1 l3 rfl rfl
  have l4_1 : zld (zs1 lv 5 (.int (v5 + Int32.ofInt 1))) 4 = some (.int v4) := x_o1 l4 rfl rfl
  have l5_1 : zld (zs1 lv 5 (.int (v5 + Int32.ofInt 1))) 5 = some (.int (v5 + Int32.ofInt 1)) := zs1_ld _ _ _
  have l6_1 : zld (zs1 lv 5 (.int (v5 + Int32.ofInt 1))) 6 = some (.int v6) := x_o1 l6 rfl rfl
  generalize (zs1 lv 5 (.int (v5 + Int32.ofInt 1))) = lv1 at *
  refine r_s (fr' := (6, lv1, [])) (hp' := xW B m) (q := (.goto (-195), 3, 6, 0, .null)) rfl (fun _ => rfl) (Nat.le_refl _) ?_
  exact k6 l0_1 l1_1 l2_1 l3_1 l4_1 l5_1 h
def D28_R_11t_73 (F : Nat) (r0 nn : Nat) (g6 : Int32 → Int32 → Int32 → Int32 → xS → Option (Int64 × xS)) (v2 : Int32) (v3 : Int32) (v4 : Int32) (v5 : Int32) (v6 : Int32) (w0 : Int64) (w1 : Int32) (m : xS) : Option (Int64 × xS) :=
  if xib w1 64 = true then
    D28_R_11t_198 F r0 nn g6 v2 v3 (v4 + Int32.ofInt 1) v5 v6 (xul m (r0 + 2) (w1 : Int32).toNatClampNeg w0)
  else none
set_option maxRecDepth 20000 in
theorem T28_R_11t_73 {B : zHp} (H : yH0 B) {e : Nat} (he : 5 ≤ e + 1) (F : Nat) (r0 nn : Nat) (hr0 : rlB B r0 nn) (g6 : Int32 → Int32 → Int32 → Int32 → xS → Option (Int64 × xS)) (k6 : ∀ {v2 : Int32} {v3 : Int32} {v4 : Int32} {v5 : Int32} {lv : List (Nat × Value)} {m : xS} {x : Int64 × xS}, zld lv 0 = some (.ref r0) → zld lv 1 = some (.ref 11) → zld lv 2 = some (.int v2) → zld lv 3 = some (.int v3) → zld lv 4 = some (.int v4) → zld lv 5 = some (.int v5) → g6 v2 v3 v4 v5 m = some x → zR none e 7 (some .long) zc28 (6, lv, []) (xW B m) (some (.long x.1), xW B x.2)) {v2 : Int32} {v3 : Int32} {v4 : Int32} {v5 : Int32} {v6 : Int32} {w0 : Int64} {w1 : Int32} {lv : List (Nat × Value)} {m : xS} {x : Int64 × xS} (l0 : zld lv 0 = some (.ref r0)) (l1 : zld lv 1 = some (.ref 11)) (l2 : zld lv 2 = some (.int v2)) (l3 : zld lv 3 = some (.int v3)) (l4 : zld lv 4 = some (.int v4)) (l5 : zld lv 5 = some (.int v5)) (l6 : zld lv 6 = some (.int v6)) (h : D28_R_11t_73 F r0 nn g6 v2 v3 v4 v5 v6 w0 w1 m = some x) : zR none e 7 (some .long) zc28 (73, lv, [.long w0, .int w1, .ref (r0 + 2)]) (xW B m) (some (.long x.1), xW B x.2) := by
  unfold D28_R_11t_73 at h
  obtain ⟨c1, h⟩ := xif h
  refine q_rlas (s2 := (xul m (r0 + 2) (w1 : Int32).toNatClampNeg w0)) hr0 (pc := 73) rfl c1 rfl ?_
  refine q_inc (i := 4) (n := 1) (q := (.iinc 4 1, 3, 0, 0, .null)) rfl (fun _ => rfl) l4 (by decide) ?_
  have l0_2 : zld (zs1 lv 4 (.int (v4 + Int32.ofInt 1))) 0 = some (.ref r0) := x_o1 l0 rfl rfl
  have l1_2 : zld (zs1 lv 4 (.int (v4 + Int32.ofInt 1))) 1 = some (.ref 11) := x_o1 l1 rfl rfl
  have l2_2 : zld (zs1 lv 4 (.int (v4 + Int32.ofInt 1))) 2 = some (.int v2) := x_o1 l2 rfl rfl
  have l3_2 : zld (zs1 lv 4 (.int (v4 + Int32.ofInt 1))) 3 = some (.int v3) := x_o1 l3 rfl rfl
  have l4_2 : zld (zs1 lv 4 (.int (v4 + Int32.ofInt 1))) 4 = some (.int (v4 + Int32.ofInt 1)) := zs1_ld _ _ _
  have l5_2 : zld (zs1 lv 4 (.int (v4 + Int32.ofInt 1))) 5 = some (.int v5) := x_o1 l5 rfl rfl
  have l6_2 : zld (zs1 lv 4 (.int (v4 + Int32.ofInt 1))) 6 = some (.int v6) := x_o1 l6 rfl rfl
  generalize (zs1 lv 4 (.int (v4 + Int32.ofInt 1))) = lv2 at *
  refine r_s (fr' := (198, lv2, [])) (hp' := xW B (xul m (r0 + 2) (w1 : Int32).toNatClampNeg w0)) (q := (.goto 121, 3, 198, 0, .null)) rfl (fun _ => rfl) (Nat.le_refl _) ?_
  exact T28_R_11t_198 H he F r0 nn hr0 _ k6 l0_2 l1_2 l2_2 l3_2 l4_2 l5_2 l6_2 h
def D28_R_11t_159 (F : Nat) (r0 nn : Nat) (g6 : Int32 → Int32 → Int32 → Int32 → xS → Option (Int64 × xS)) (v2 : Int32) (v3 : Int32) (v4 : Int32) (v5 : Int32) (v6 : Int32) (m : xS) : Option (Int64 × xS) :=
  if zcmp .le v4 1 = true then
    D28_R_11t_198 F r0 nn g6 v2 v3 v4 v5 v6 m
  else
    if xib ((v4 + Int32.ofInt (-1)) - 1) 64 = true then
      if xib (v4 + Int32.ofInt (-1)) 64 = true then
        (D29 F v6 (m.2 (r0 + 2) (((v4 + Int32.ofInt (-1)) - 1) : Int32).toNatClampNeg) (m.2 (r0 + 2) ((v4 + Int32.ofInt (-1)) : Int32).toNatClampNeg) m).bind fun q194 =>
          if xib ((v4 + Int32.ofInt (-1)) - 1) 64 = true then
            D28_R_11t_198 F r0 nn g6 v2 v3 (v4 + Int32.ofInt (-1)) v5 v6 (xul q194.2 (r0 + 2) (((v4 + Int32.ofInt (-1)) - 1) : Int32).toNatClampNeg q194.1)
          else none
      else none
    else none
set_option maxRecDepth 20000 in
theorem T28_R_11t_159 {B : zHp} (H : yH0 B) {e : Nat} (he : 5 ≤ e + 1) (F : Nat) (r0 nn : Nat) (hr0 : rlB B r0 nn) (g6 : Int32 → Int32 → Int32 → Int32 → xS → Option (Int64 × xS)) (k6 : ∀ {v2 : Int32} {v3 : Int32} {v4 : Int32} {v5 : Int32} {lv : List (Nat × Value)} {m : xS} {x : Int64 × xS}, zld lv 0 = some (.ref r0) → zld lv 1 = some (.ref 11) → zld lv 2 = some (.int v2) → zld lv 3 = some (.int v3) → zld lv 4 = some (.int v4) → zld lv 5 = some (.int v5) → g6 v2 v3 v4 v5 m = some x → zR none e 7 (some .long) zc28 (6, lv, []) (xW B m) (some (.long x.1), xW B x.2)) {v2 : Int32} {v3 : Int32} {v4 : Int32} {v5 : Int32} {v6 : Int32} {lv : List (Nat × Value)} {m : xS} {x : Int64 × xS} (l0 : zld lv 0 = some (.ref r0)) (l1 : zld lv 1 = some (.ref 11)) (l2 : zld lv 2 = some (.int v2)) (l3 : zld lv 3 = some (.int v3)) (l4 : zld lv 4 = some (.int v4)) (l5 : zld lv 5 = some (.int v5)) (l6 : zld lv 6 = some (.int v6)) (h : D28_R_11t_159 F r0 nn g6 v2 v3 v4 v5 v6 m = some x) : zR none e 7 (some .long) zc28 (159, lv, []) (xW B m) (some (.long x.1), xW B x.2) := by
  unfold D28_R_11t_159 at h
  refine q_li (k := 2) (i := 4) (q := (.iload 4, 2, 0, 0, .null)) rfl (fun _ => rfl) l4 ?_
  refine r_s (fr' := (162, lv, [.int 1, .int v4])) (hp' := xW B m) (q := (.iconst 1, 1, 0, 0, .null)) rfl (fun _ => rfl) (Nat.le_refl _) ?_
  refine r_ifc (len := 3) (a := 198) (b := 0) (v0 := .null) (cn := .le) (off := 36) rfl (fun c => ?_) (fun c => ?_)
  · rw [if_pos c] at h
    exact T28_R_11t_198 H he F r0 nn hr0 _ k6 l0 l1 l2 l3 l4 l5 l6 h
  · rw [if_neg (by rw [c]; decide)] at h
    refine q_inc (i := 4) (n := (-1)) (q := (.iinc 4 (-1), 3, 0, 0, .null)) rfl (fun _ => rfl) l4 (by decide) ?_
    have l0_1 : zld (zs1 lv 4 (.int (v4 + Int32.ofInt (-1)))) 0 = some (.ref r0) := x_o1 l0 rfl rfl
    have l1_1 : zld (zs1 lv 4 (.int (v4 + Int32.ofInt (-1)))) 1 = some (.ref 11) := x_o1 l1 rfl rfl
    have l2_1 : zld (zs1 lv 4 (.int (v4 + Int32.ofInt (-1)))) 2 = some (.int v2) := x_o1 l2 rfl rfl
    have l3_1 : zld (zs1 lv 4 (.int (v4 + Int32.ofInt (-1)))) 3 = some (.int v3) := x_o1 l3 rfl rfl
    have l4_1 : zld (zs1 lv 4 (.int (v4 + Int32.ofInt (-1)))) 4 = some (.int (v4 + Int32.ofInt (-1))) := zs1_ld _ _ _
    have l5_1 : zld (zs1 lv 4 (.int (v4 + Int32.ofInt (-1)))) 5 = some (.int v5) := x_o1 l5 rfl rfl
    have l6_1 : zld (zs1 lv 4 (.int (v4 + Int32.ofInt (-1)))) 6 = some (.int v6) := x_o1 l6 rfl rfl
    generalize (zs1 lv 4 (.int (v4 + Int32.ofInt (-1)))) = lv1 at *
    refine q_lr (k := 1) (i := 0) (q := (.aload_n 0, 1, 0, 0, .null)) rfl (fun _ => rfl) l0_1 ?_
    refine r_rg hr0 (pc := 169) rfl (b := 1) rfl ?_
    refine q_li (k := 2) (i := 4) (q := (.iload 4, 2, 0, 0, .null)) rfl (fun _ => rfl) l4_1 ?_
    refine r_s (fr' := (175, lv1, [.int 1, .int (v4 + Int32.ofInt (-1)), .ref (r0 + 2)])) (hp' := xW B m) (q := (.iconst 1, 1, 0, 0, .null)) rfl (fun _ => rfl) (Nat.le_refl _) ?_
    refine r_s (fr' := (176, lv1, [.int ((v4 + Int32.ofInt (-1)) - 1), .ref (r0 + 2)])) (hp' := xW B m) (q := (.isub, 1, 0, 0, .null)) rfl (fun _ => rfl) (Nat.le_refl _) ?_
    refine q_li (k := 2) (i := 6) (q := (.iload 6, 2, 0, 0, .null)) rfl (fun _ => rfl) l6_1 ?_
    refine q_lr (k := 1) (i := 0) (q := (.aload_n 0, 1, 0, 0, .null)) rfl (fun _ => rfl) l0_1 ?_
    refine r_rg hr0 (pc := 179) rfl (b := 1) rfl ?_
    refine q_li (k := 2) (i := 4) (q := (.iload 4, 2, 0, 0, .null)) rfl (fun _ => rfl) l4_1 ?_
    refine r_s (fr' := (185, lv1, [.int 1, .int (v4 + Int32.ofInt (-1)), .ref (r0 + 2), .int v6, .int ((v4 + Int32.ofInt (-1)) - 1), .ref (r0 + 2)])) (hp' := xW B m) (q := (.iconst 1, 1, 0, 0, .null)) rfl (fun _ => rfl) (Nat.le_refl _) ?_
    refine r_s (fr' := (186, lv1, [.int ((v4 + Int32.ofInt (-1)) - 1), .ref (r0 + 2), .int v6, .int ((v4 + Int32.ofInt (-1)) - 1), .ref (r0 + 2)])) (hp' := xW B m) (q := (.isub, 1, 0, 0, .null)) rfl (fun _ => rfl) (Nat.le_refl _) ?_
    obtain ⟨c2, h⟩ := xif h
    refine q_rlal (v := (m.2 (r0 + 2) (((v4 + Int32.ofInt (-1)) - 1) : Int32).toNatClampNeg)) hr0 (pc := 186) rfl c2 rfl ?_
    refine q_lr (k := 1) (i := 0) (q := (.aload_n 0, 1, 0, 0, .null)) rfl (fun _ => rfl) l0_1 ?_
    refine r_rg hr0 (pc := 188) rfl (b := 1) rfl ?_
    refine q_li (k := 2) (i := 4) (q := (.iload 4, 2, 0, 0, .null)) rfl (fun _ => rfl) l4_1 ?_
    obtain ⟨c3, h⟩ := xif h
    refine q_rlal (v := (m.2 (r0 + 2) ((v4 + Int32.ofInt (-1)) : Int32).toNatClampNeg)) hr0 (pc := 193) rfl c3 rfl ?_
    obtain ⟨q194, h194, h⟩ := xbind h
    refine r_callS (as := [.int v6, .long (m.2 (r0 + 2) (((v4 + Int32.ofInt (-1)) - 1) : Int32).toNatClampNeg), .long (m.2 (r0 + 2) ((v4 + Int32.ofInt (-1)) : Int32).toNatClampNeg)]) (rest := [.int ((v4 + Int32.ofInt (-1)) - 1), .ref (r0 + 2)]) (rv := some (.long q194.1)) (hp' := xW B q194.2) (pc := 194) rfl xr29 rfl rfl rfl (Nat.le_of_ble_eq_true rfl) (Z29 H h194 (by omega)) (Nat.le_refl _) ?_
    obtain ⟨c4, h⟩ := xif h
    refine q_rlas (s2 := (xul q194.2 (r0 + 2) (((v4 + Int32.ofInt (-1)) - 1) : Int32).toNatClampNeg q194.1)) hr0 (pc := 197) rfl c4 rfl ?_
    exact T28_R_11t_198 H he F r0 nn hr0 _ k6 l0_1 l1_1 l2_1 l3_1 l4_1 l5_1 l6_1 h
def D28_R_11t_6 (F : Nat) (r0 nn : Nat) : Nat → Int32 → Int32 → Int32 → Int32 → xS → Option (Int64 × xS)
  | 0, _, _, _, _, _ => none
  | f + 1, v2, v3, v4, v5, m =>
    if zcmp .ge v5 (Int32.ofNat nn) = true then
      some (0, m)
    else
      if xib v5 nn = true then
        if zcmp .lt (m.1 (r0 + 1) (v5 : Int32).toNatClampNeg) 20 = true then
          if zcmp .ne (m.1 (r0 + 1) (v5 : Int32).toNatClampNeg) 14 = true then
            if zcmp .ne (m.1 (r0 + 1) (v5 : Int32).toNatClampNeg) 15 = true then
              if zcmp .ne (m.1 (r0 + 1) (v5 : Int32).toNatClampNeg) 3 = true then
                D28_R_11t_159 F r0 nn (D28_R_11t_6 F r0 nn f) v2 v3 v4 v5 (m.1 (r0 + 1) (v5 : Int32).toNatClampNeg) m
              else
                if zcmp .le v4 0 = true then
                  D28_R_11t_159 F r0 nn (D28_R_11t_6 F r0 nn f) v2 v3 v4 v5 (m.1 (r0 + 1) (v5 : Int32).toNatClampNeg) m
                else
                  if xib (v4 - 1) 64 = true then
                    if xib (v4 - 1) 64 = true then
                      D28_R_11t_198 F r0 nn (D28_R_11t_6 F r0 nn f) v2 v3 v4 v5 (m.1 (r0 + 1) (v5 : Int32).toNatClampNeg) (xul m (r0 + 2) ((v4 - 1) : Int32).toNatClampNeg (1 - (m.2 (r0 + 2) ((v4 - 1) : Int32).toNatClampNeg)))
                    else none
                  else none
            else
              if zcmp .eq (lg_cmp (m.2 (r0 + 2) 1) 0) 0 = true then
                D28_R_11t_198 F r0 nn (D28_R_11t_6 F r0 nn f) v2 v3 0 v5 (m.1 (r0 + 1) (v5 : Int32).toNatClampNeg) m
              else
                some ((m.2 (r0 + 2) 0), m)
          else
            some ((m.2 (r0 + 2) 0), m)
        else
          if zcmp .ge v4 64 = true then
            D28_R_11t_198 F r0 nn (D28_R_11t_6 F r0 nn f) v2 v3 v4 v5 (m.1 (r0 + 1) (v5 : Int32).toNatClampNeg) m
          else
            if zcmp .lt (m.1 (r0 + 1) (v5 : Int32).toNatClampNeg) 40 = true then
              (D31_11t F ((m.1 (r0 + 1) (v5 : Int32).toNatClampNeg) - 20) v2 v3 m).bind fun q69 =>
                D28_R_11t_73 F r0 nn (D28_R_11t_6 F r0 nn f) v2 v3 v4 v5 (m.1 (r0 + 1) (v5 : Int32).toNatClampNeg) (q69.1 : Int32).toInt64 v4 q69.2
            else
              D28_R_11t_73 F r0 nn (D28_R_11t_6 F r0 nn f) v2 v3 v4 v5 (m.1 (r0 + 1) (v5 : Int32).toNatClampNeg) (((m.1 (r0 + 1) (v5 : Int32).toNatClampNeg) - 40) : Int32).toInt64 v4 m
      else none
set_option maxRecDepth 20000 in
theorem T28_R_11t_6 {B : zHp} (H : yH0 B) {e : Nat} (he : 5 ≤ e + 1) (F : Nat) (r0 nn : Nat) (hr0 : rlB B r0 nn) : ∀ (f : Nat) {v2 : Int32} {v3 : Int32} {v4 : Int32} {v5 : Int32} {lv : List (Nat × Value)} {m : xS} {x : Int64 × xS}, zld lv 0 = some (.ref r0) → zld lv 1 = some (.ref 11) → zld lv 2 = some (.int v2) → zld lv 3 = some (.int v3) → zld lv 4 = some (.int v4) → zld lv 5 = some (.int v5) → D28_R_11t_6 F r0 nn f v2 v3 v4 v5 m = some x → zR none e 7 (some .long) zc28 (6, lv, []) (xW B m) (some (.long x.1), xW B x.2) := by
  intro f
  induction f with
  | zero => intro v2 v3 v4 v5 lv m x l0 l1 l2 l3 l4 l5 h; cases h
  | succ f ih =>
    intro v2 v3 v4 v5 lv m x l0 l1 l2 l3 l4 l5 h
    unfold D28_R_11t_6 at h
    refine q_li (k := 2) (i := 5) (q := (.iload 5, 2, 0, 0, .null)) rfl (fun _ => rfl) l5 ?_
    refine q_lr (k := 1) (i := 0) (q := (.aload_n 0, 1, 0, 0, .null)) rfl (fun _ => rfl) l0 ?_
    refine r_rg hr0 (pc := 9) rfl (b := 0) rfl ?_
    refine q_rlen hr0 (pc := 12) rfl ?_
    refine r_ifc (len := 3) (a := 204) (b := 0) (v0 := .null) (cn := .ge) (off := 191) rfl (fun c => ?_) (fun c => ?_)
    · rw [if_pos c] at h
      refine r_s (fr' := (205, lv, [.long 0])) (hp' := xW B m) (q := (.lconst 0, 1, 0, 0, .null)) rfl (fun _ => rfl) (Nat.le_refl _) ?_
      obtain rfl := Option.some.inj h
      exact q_rl (q := (.lreturn, 1, 0, 0, .null)) rfl (fun _ => rfl) rfl
    · rw [if_neg (by rw [c]; decide)] at h
      refine q_lr (k := 1) (i := 0) (q := (.aload_n 0, 1, 0, 0, .null)) rfl (fun _ => rfl) l0 ?_
      refine r_rg hr0 (pc := 17) rfl (b := 0) rfl ?_
      refine q_li (k := 2) (i := 5) (q := (.iload 5, 2, 0, 0, .null)) rfl (fun _ => rfl) l5 ?_
      obtain ⟨c1, h⟩ := xif h
      refine q_ral (v := (m.1 (r0 + 1) (v5 : Int32).toNatClampNeg)) hr0 (pc := 22) rfl c1 rfl ?_
      refine q_si (k := 2) (i := 6) (q := (.istore 6, 2, 0, 0, .null)) rfl (fun _ => rfl) (by decide) ?_
      have l0_2 : zld (zs1 lv 6 (.int (m.1 (r0 + 1) (v5 : Int32).toNatClampNeg))) 0 = some (.ref r0) := x_o1 l0 rfl rfl
      have l1_2 : zld (zs1 lv 6 (.int (m.1 (r0 + 1) (v5 : Int32).toNatClampNeg))) 1 = some (.ref 11) := x_o1 l1 rfl rfl
      have l2_2 : zld (zs1 lv 6 (.int (m.1 (r0 + 1) (v5 : Int32).toNatClampNeg))) 2 = some (.int v2) := x_o1 l2 rfl rfl
      have l3_2 : zld (zs1 lv 6 (.int (m.1 (r0 + 1) (v5 : Int32).toNatClampNeg))) 3 = some (.int v3) := x_o1 l3 rfl rfl
      have l4_2 : zld (zs1 lv 6 (.int (m.1 (r0 + 1) (v5 : Int32).toNatClampNeg))) 4 = some (.int v4) := x_o1 l4 rfl rfl
      have l5_2 : zld (zs1 lv 6 (.int (m.1 (r0 + 1) (v5 : Int32).toNatClampNeg))) 5 = some (.int v5) := x_o1 l5 rfl rfl
      have l6_2 : zld (zs1 lv 6 (.int (m.1 (r0 + 1) (v5 : Int32).toNatClampNeg))) 6 = some (.int (m.1 (r0 + 1) (v5 : Int32).toNatClampNeg)) := zs1_ld _ _ _
      generalize (zs1 lv 6 (.int (m.1 (r0 + 1) (v5 : Int32).toNatClampNeg))) = lv2 at *
      refine q_li (k := 2) (i := 6) (q := (.iload 6, 2, 0, 0, .null)) rfl (fun _ => rfl) l6_2 ?_
      refine r_s (fr' := (29, lv2, [.int 20, .int (m.1 (r0 + 1) (v5 : Int32).toNatClampNeg)])) (hp' := xW B m) (q := (.bipush 20, 2, 0, 0, .null)) rfl (fun _ => rfl) (Nat.le_refl _) ?_
      refine r_ifc (len := 3) (a := 80) (b := 0) (v0 := .null) (cn := .lt) (off := 51) rfl (fun c => ?_) (fun c => ?_)
      · rw [if_pos c] at h
        refine q_li (k := 2) (i := 6) (q := (.iload 6, 2, 0, 0, .null)) rfl (fun _ => rfl) l6_2 ?_
        refine r_s (fr' := (84, lv2, [.int 14, .int (m.1 (r0 + 1) (v5 : Int32).toNatClampNeg)])) (hp' := xW B m) (q := (.bipush 14, 2, 0, 0, .null)) rfl (fun _ => rfl) (Nat.le_refl _) ?_
        refine r_ifc (len := 3) (a := 94) (b := 0) (v0 := .null) (cn := .ne) (off := 10) rfl (fun c => ?_) (fun c => ?_)
        · rw [if_pos c] at h
          refine q_li (k := 2) (i := 6) (q := (.iload 6, 2, 0, 0, .null)) rfl (fun _ => rfl) l6_2 ?_
          refine r_s (fr' := (98, lv2, [.int 15, .int (m.1 (r0 + 1) (v5 : Int32).toNatClampNeg)])) (hp' := xW B m) (q := (.bipush 15, 2, 0, 0, .null)) rfl (fun _ => rfl) (Nat.le_refl _) ?_
          refine r_ifc (len := 3) (a := 125) (b := 0) (v0 := .null) (cn := .ne) (off := 27) rfl (fun c => ?_) (fun c => ?_)
          · rw [if_pos c] at h
            refine q_li (k := 2) (i := 6) (q := (.iload 6, 2, 0, 0, .null)) rfl (fun _ => rfl) l6_2 ?_
            refine r_s (fr' := (128, lv2, [.int 3, .int (m.1 (r0 + 1) (v5 : Int32).toNatClampNeg)])) (hp' := xW B m) (q := (.iconst 3, 1, 0, 0, .null)) rfl (fun _ => rfl) (Nat.le_refl _) ?_
            refine r_ifc (len := 3) (a := 159) (b := 0) (v0 := .null) (cn := .ne) (off := 31) rfl (fun c => ?_) (fun c => ?_)
            · rw [if_pos c] at h
              exact T28_R_11t_159 H he F r0 nn hr0 _ ih l0_2 l1_2 l2_2 l3_2 l4_2 l5_2 l6_2 h
            · rw [if_neg (by rw [c]; decide)] at h
              refine q_li (k := 2) (i := 4) (q := (.iload 4, 2, 0, 0, .null)) rfl (fun _ => rfl) l4_2 ?_
              refine r_if (len := 3) (a := 159) (b := 0) (v0 := .null) (cn := .le) (off := 26) rfl (fun c => ?_) (fun c => ?_)
              · rw [if_pos c] at h
                exact T28_R_11t_159 H he F r0 nn hr0 _ ih l0_2 l1_2 l2_2 l3_2 l4_2 l5_2 l6_2 h
              · rw [if_neg (by rw [c]; decide)] at h
                refine q_lr (k := 1) (i := 0) (q := (.aload_n 0, 1, 0, 0, .null)) rfl (fun _ => rfl) l0_2 ?_
                refine r_rg hr0 (pc := 137) rfl (b := 1) rfl ?_
                refine q_li (k := 2) (i := 4) (q := (.iload 4, 2, 0, 0, .null)) rfl (fun _ => rfl) l4_2 ?_
                refine r_s (fr' := (143, lv2, [.int 1, .int v4, .ref (r0 + 2)])) (hp' := xW B m) (q := (.iconst 1, 1, 0, 0, .null)) rfl (fun _ => rfl) (Nat.le_refl _) ?_
                refine r_s (fr' := (144, lv2, [.int (v4 - 1), .ref (r0 + 2)])) (hp' := xW B m) (q := (.isub, 1, 0, 0, .null)) rfl (fun _ => rfl) (Nat.le_refl _) ?_
                refine r_s (fr' := (145, lv2, [.long 1, .int (v4 - 1), .ref (r0 + 2)])) (hp' := xW B m) (q := (.lconst 1, 1, 0, 0, .null)) rfl (fun _ => rfl) (Nat.le_refl _) ?_
                refine q_lr (k := 1) (i := 0) (q := (.aload_n 0, 1, 0, 0, .null)) rfl (fun _ => rfl) l0_2 ?_
                refine r_rg hr0 (pc := 146) rfl (b := 1) rfl ?_
                refine q_li (k := 2) (i := 4) (q := (.iload 4, 2, 0, 0, .null)) rfl (fun _ => rfl) l4_2 ?_
                refine r_s (fr' := (152, lv2, [.int 1, .int v4, .ref (r0 + 2), .long 1, .int (v4 - 1), .ref (r0 + 2)])) (hp' := xW B m) (q := (.iconst 1, 1, 0, 0, .null)) rfl (fun _ => rfl) (Nat.le_refl _) ?_
                refine r_s (fr' := (153, lv2, [.int (v4 - 1), .ref (r0 + 2), .long 1, .int (v4 - 1), .ref (r0 + 2)])) (hp' := xW B m) (q := (.isub, 1, 0, 0, .null)) rfl (fun _ => rfl) (Nat.le_refl _) ?_
                obtain ⟨c3, h⟩ := xif h
                refine q_rlal (v := (m.2 (r0 + 2) ((v4 - 1) : Int32).toNatClampNeg)) hr0 (pc := 153) rfl c3 rfl ?_
                refine r_s (fr' := (155, lv2, [.long (1 - (m.2 (r0 + 2) ((v4 - 1) : Int32).toNatClampNeg)), .int (v4 - 1), .ref (r0 + 2)])) (hp' := xW B m) (q := (.lsub, 1, 0, 0, .null)) rfl (fun _ => rfl) (Nat.le_refl _) ?_
                obtain ⟨c4, h⟩ := xif h
                refine q_rlas (s2 := (xul m (r0 + 2) ((v4 - 1) : Int32).toNatClampNeg (1 - (m.2 (r0 + 2) ((v4 - 1) : Int32).toNatClampNeg)))) hr0 (pc := 155) rfl c4 rfl ?_
                refine r_s (fr' := (198, lv2, [])) (hp' := xW B (xul m (r0 + 2) ((v4 - 1) : Int32).toNatClampNeg (1 - (m.2 (r0 + 2) ((v4 - 1) : Int32).toNatClampNeg)))) (q := (.goto 42, 3, 198, 0, .null)) rfl (fun _ => rfl) (Nat.le_refl _) ?_
                exact T28_R_11t_198 H he F r0 nn hr0 _ ih l0_2 l1_2 l2_2 l3_2 l4_2 l5_2 l6_2 h
          · rw [if_neg (by rw [c]; decide)] at h
            refine q_lr (k := 1) (i := 0) (q := (.aload_n 0, 1, 0, 0, .null)) rfl (fun _ => rfl) l0_2 ?_
            refine r_rg hr0 (pc := 102) rfl (b := 1) rfl ?_
            refine r_s (fr' := (106, lv2, [.int 1, .ref (r0 + 2)])) (hp' := xW B m) (q := (.iconst 1, 1, 0, 0, .null)) rfl (fun _ => rfl) (Nat.le_refl _) ?_
            refine q_rlal (v := (m.2 (r0 + 2) 1)) hr0 (pc := 106) rfl (by decide) rfl ?_
            refine r_s (fr' := (108, lv2, [.long 0, .long (m.2 (r0 + 2) 1)])) (hp' := xW B m) (q := (.lconst 0, 1, 0, 0, .null)) rfl (fun _ => rfl) (Nat.le_refl _) ?_
            refine r_s (fr' := (109, lv2, [.int (lg_cmp (m.2 (r0 + 2) 1) 0)])) (hp' := xW B m) (q := (.lcmp, 1, 0, 0, .null)) rfl (fun _ => rfl) (Nat.le_refl _) ?_
            refine r_if (len := 3) (a := 119) (b := 0) (v0 := .null) (cn := .eq) (off := 10) rfl (fun c => ?_) (fun c => ?_)
            · rw [if_pos c] at h
              refine r_s (fr' := (120, lv2, [.int 0])) (hp' := xW B m) (q := (.iconst 0, 1, 0, 0, .null)) rfl (fun _ => rfl) (Nat.le_refl _) ?_
              refine q_si (k := 2) (i := 4) (q := (.istore 4, 2, 0, 0, .null)) rfl (fun _ => rfl) (by decide) ?_
              have l0_5 : zld (zs1 lv2 4 (.int 0)) 0 = some (.ref r0) := x_o1 l0_2 rfl rfl
              have l1_5 : zld (zs1 lv2 4 (.int 0)) 1 = some (.ref 11) := x_o1 l1_2 rfl rfl
              have l2_5 : zld (zs1 lv2 4 (.int 0)) 2 = some (.int v2) := x_o1 l2_2 rfl rfl
              have l3_5 : zld (zs1 lv2 4 (.int 0)) 3 = some (.int v3) := x_o1 l3_2 rfl rfl
              have l4_5 : zld (zs1 lv2 4 (.int 0)) 4 = some (.int 0) := zs1_ld _ _ _
              have l5_5 : zld (zs1 lv2 4 (.int 0)) 5 = some (.int v5) := x_o1 l5_2 rfl rfl
              have l6_5 : zld (zs1 lv2 4 (.int 0)) 6 = some (.int (m.1 (r0 + 1) (v5 : Int32).toNatClampNeg)) := x_o1 l6_2 rfl rfl
              generalize (zs1 lv2 4 (.int 0)) = lv5 at *
              refine r_s (fr' := (198, lv5, [])) (hp' := xW B m) (q := (.goto 76, 3, 198, 0, .null)) rfl (fun _ => rfl) (Nat.le_refl _) ?_
              exact T28_R_11t_198 H he F r0 nn hr0 _ ih l0_5 l1_5 l2_5 l3_5 l4_5 l5_5 l6_5 h
            · rw [if_neg (by rw [c]; decide)] at h
              refine q_lr (k := 1) (i := 0) (q := (.aload_n 0, 1, 0, 0, .null)) rfl (fun _ => rfl) l0_2 ?_
              refine r_rg hr0 (pc := 113) rfl (b := 1) rfl ?_
              refine r_s (fr' := (117, lv2, [.int 0, .ref (r0 + 2)])) (hp' := xW B m) (q := (.iconst 0, 1, 0, 0, .null)) rfl (fun _ => rfl) (Nat.le_refl _) ?_
              refine q_rlal (v := (m.2 (r0 + 2) 0)) hr0 (pc := 117) rfl (by decide) rfl ?_
              obtain rfl := Option.some.inj h
              exact q_rl (q := (.lreturn, 1, 0, 0, .null)) rfl (fun _ => rfl) rfl
        · rw [if_neg (by rw [c]; decide)] at h
          refine q_lr (k := 1) (i := 0) (q := (.aload_n 0, 1, 0, 0, .null)) rfl (fun _ => rfl) l0_2 ?_
          refine r_rg hr0 (pc := 88) rfl (b := 1) rfl ?_
          refine r_s (fr' := (92, lv2, [.int 0, .ref (r0 + 2)])) (hp' := xW B m) (q := (.iconst 0, 1, 0, 0, .null)) rfl (fun _ => rfl) (Nat.le_refl _) ?_
          refine q_rlal (v := (m.2 (r0 + 2) 0)) hr0 (pc := 92) rfl (by decide) rfl ?_
          obtain rfl := Option.some.inj h
          exact q_rl (q := (.lreturn, 1, 0, 0, .null)) rfl (fun _ => rfl) rfl
      · rw [if_neg (by rw [c]; decide)] at h
        refine q_li (k := 2) (i := 4) (q := (.iload 4, 2, 0, 0, .null)) rfl (fun _ => rfl) l4_2 ?_
        refine r_s (fr' := (36, lv2, [.int 64, .int v4])) (hp' := xW B m) (q := (.bipush 64, 2, 0, 0, .null)) rfl (fun _ => rfl) (Nat.le_refl _) ?_
        refine r_ifc (len := 3) (a := 198) (b := 0) (v0 := .null) (cn := .ge) (off := 162) rfl (fun c => ?_) (fun c => ?_)
        · rw [if_pos c] at h
          exact T28_R_11t_198 H he F r0 nn hr0 _ ih l0_2 l1_2 l2_2 l3_2 l4_2 l5_2 l6_2 h
        · rw [if_neg (by rw [c]; decide)] at h
          refine q_lr (k := 1) (i := 0) (q := (.aload_n 0, 1, 0, 0, .null)) rfl (fun _ => rfl) l0_2 ?_
          refine r_rg hr0 (pc := 40) rfl (b := 1) rfl ?_
          refine q_li (k := 2) (i := 4) (q := (.iload 4, 2, 0, 0, .null)) rfl (fun _ => rfl) l4_2 ?_
          refine q_li (k := 2) (i := 6) (q := (.iload 6, 2, 0, 0, .null)) rfl (fun _ => rfl) l6_2 ?_
          refine r_s (fr' := (49, lv2, [.int 40, .int (m.1 (r0 + 1) (v5 : Int32).toNatClampNeg), .int v4, .ref (r0 + 2)])) (hp' := xW B m) (q := (.bipush 40, 2, 0, 0, .null)) rfl (fun _ => rfl) (Nat.le_refl _) ?_
          refine r_ifc (len := 3) (a := 61) (b := 0) (v0 := .null) (cn := .lt) (off := 12) rfl (fun c => ?_) (fun c => ?_)
          · rw [if_pos c] at h
            refine q_li (k := 2) (i := 6) (q := (.iload 6, 2, 0, 0, .null)) rfl (fun _ => rfl) l6_2 ?_
            refine r_s (fr' := (65, lv2, [.int 20, .int (m.1 (r0 + 1) (v5 : Int32).toNatClampNeg), .int v4, .ref (r0 + 2)])) (hp' := xW B m) (q := (.bipush 20, 2, 0, 0, .null)) rfl (fun _ => rfl) (Nat.le_refl _) ?_
            refine r_s (fr' := (66, lv2, [.int ((m.1 (r0 + 1) (v5 : Int32).toNatClampNeg) - 20), .int v4, .ref (r0 + 2)])) (hp' := xW B m) (q := (.isub, 1, 0, 0, .null)) rfl (fun _ => rfl) (Nat.le_refl _) ?_
            refine q_lr (k := 1) (i := 1) (q := (.aload_n 1, 1, 0, 0, .null)) rfl (fun _ => rfl) l1_2 ?_
            refine q_li (k := 1) (i := 2) (q := (.iload_n 2, 1, 0, 0, .null)) rfl (fun _ => rfl) l2_2 ?_
            refine q_li (k := 1) (i := 3) (q := (.iload_n 3, 1, 0, 0, .null)) rfl (fun _ => rfl) l3_2 ?_
            obtain ⟨q69, h69, h⟩ := xbind h
            refine r_callS (as := [.int ((m.1 (r0 + 1) (v5 : Int32).toNatClampNeg) - 20), .ref 11, .int v2, .int v3]) (rest := [.int v4, .ref (r0 + 2)]) (rv := some (.int q69.1)) (hp' := xW B q69.2) (pc := 69) rfl xr31 rfl rfl rfl (Nat.le_of_ble_eq_true rfl) (Z31_11t H h69 (by omega)) (Nat.le_refl _) ?_
            refine r_s (fr' := (73, lv2, [.long (q69.1 : Int32).toInt64, .int v4, .ref (r0 + 2)])) (hp' := xW B q69.2) (q := (.i2l, 1, 0, 0, .null)) rfl (fun _ => rfl) (Nat.le_refl _) ?_
            exact T28_R_11t_73 H he F r0 nn hr0 _ ih l0_2 l1_2 l2_2 l3_2 l4_2 l5_2 l6_2 h
          · rw [if_neg (by rw [c]; decide)] at h
            refine q_li (k := 2) (i := 6) (q := (.iload 6, 2, 0, 0, .null)) rfl (fun _ => rfl) l6_2 ?_
            refine r_s (fr' := (56, lv2, [.int 40, .int (m.1 (r0 + 1) (v5 : Int32).toNatClampNeg), .int v4, .ref (r0 + 2)])) (hp' := xW B m) (q := (.bipush 40, 2, 0, 0, .null)) rfl (fun _ => rfl) (Nat.le_refl _) ?_
            refine r_s (fr' := (57, lv2, [.int ((m.1 (r0 + 1) (v5 : Int32).toNatClampNeg) - 40), .int v4, .ref (r0 + 2)])) (hp' := xW B m) (q := (.isub, 1, 0, 0, .null)) rfl (fun _ => rfl) (Nat.le_refl _) ?_
            refine r_s (fr' := (58, lv2, [.long (((m.1 (r0 + 1) (v5 : Int32).toNatClampNeg) - 40) : Int32).toInt64, .int v4, .ref (r0 + 2)])) (hp' := xW B m) (q := (.i2l, 1, 0, 0, .null)) rfl (fun _ => rfl) (Nat.le_refl _) ?_
            refine r_s (fr' := (73, lv2, [.long (((m.1 (r0 + 1) (v5 : Int32).toNatClampNeg) - 40) : Int32).toInt64, .int v4, .ref (r0 + 2)])) (hp' := xW B m) (q := (.goto 15, 3, 73, 0, .null)) rfl (fun _ => rfl) (Nat.le_refl _) ?_
            exact T28_R_11t_73 H he F r0 nn hr0 _ ih l0_2 l1_2 l2_2 l3_2 l4_2 l5_2 l6_2 h
def D28_R_11t (F : Nat) (r0 nn : Nat) (v2 : Int32) (v3 : Int32) (m : xS) : Option (Int64 × xS) :=
  D28_R_11t_6 F r0 nn F v2 v3 0 0 m
set_option maxRecDepth 20000 in
theorem T28_R_11t {B : zHp} (H : yH0 B) {e : Nat} (he : 5 ≤ e + 1) (F : Nat) (r0 nn : Nat) (hr0 : rlB B r0 nn) {v2 : Int32} {v3 : Int32} {lv : List (Nat × Value)} {m : xS} {x : Int64 × xS} (l0 : zld lv 0 = some (.ref r0)) (l1 : zld lv 1 = some (.ref 11)) (l2 : zld lv 2 = some (.int v2)) (l3 : zld lv 3 = some (.int v3)) (h : D28_R_11t F r0 nn v2 v3 m = some x) : zR none e 7 (some .long) zc28 (0, lv, []) (xW B m) (some (.long x.1), xW B x.2) := by
  unfold D28_R_11t at h
  refine r_s (fr' := (1, lv, [.int 0])) (hp' := xW B m) (q := (.iconst 0, 1, 0, 0, .null)) rfl (fun _ => rfl) (Nat.le_refl _) ?_
  refine q_si (k := 2) (i := 4) (q := (.istore 4, 2, 0, 0, .null)) rfl (fun _ => rfl) (by decide) ?_
  have l0_1 : zld (zs1 lv 4 (.int 0)) 0 = some (.ref r0) := x_o1 l0 rfl rfl
  have l1_1 : zld (zs1 lv 4 (.int 0)) 1 = some (.ref 11) := x_o1 l1 rfl rfl
  have l2_1 : zld (zs1 lv 4 (.int 0)) 2 = some (.int v2) := x_o1 l2 rfl rfl
  have l3_1 : zld (zs1 lv 4 (.int 0)) 3 = some (.int v3) := x_o1 l3 rfl rfl
  have l4_1 : zld (zs1 lv 4 (.int 0)) 4 = some (.int 0) := zs1_ld _ _ _
  generalize (zs1 lv 4 (.int 0)) = lv1 at *
  refine r_s (fr' := (4, lv1, [.int 0])) (hp' := xW B m) (q := (.iconst 0, 1, 0, 0, .null)) rfl (fun _ => rfl) (Nat.le_refl _) ?_
  refine q_si (k := 2) (i := 5) (q := (.istore 5, 2, 0, 0, .null)) rfl (fun _ => rfl) (by decide) ?_
  have l0_2 : zld (zs1 lv1 5 (.int 0)) 0 = some (.ref r0) := x_o1 l0_1 rfl rfl
  have l1_2 : zld (zs1 lv1 5 (.int 0)) 1 = some (.ref 11) := x_o1 l1_1 rfl rfl
  have l2_2 : zld (zs1 lv1 5 (.int 0)) 2 = some (.int v2) := x_o1 l2_1 rfl rfl
  have l3_2 : zld (zs1 lv1 5 (.int 0)) 3 = some (.int v3) := x_o1 l3_1 rfl rfl
  have l4_2 : zld (zs1 lv1 5 (.int 0)) 4 = some (.int 0) := x_o1 l4_1 rfl rfl
  have l5_2 : zld (zs1 lv1 5 (.int 0)) 5 = some (.int 0) := zs1_ld _ _ _
  generalize (zs1 lv1 5 (.int 0)) = lv2 at *
  exact T28_R_11t_6 H he F r0 nn hr0 F l0_2 l1_2 l2_2 l3_2 l4_2 l5_2 h
set_option maxRecDepth 20000 in
theorem Z28_R_11t {B : zHp} (H : yH0 B) {F : Nat} {r0 nn : Nat} (hr0 : rlB B r0 nn) {a2 : Int32} {a3 : Int32} {m : xS} {x : Int64 × xS} (h : D28_R_11t F r0 nn a2 a3 m = some x) {d : Nat} (hd : 5 ≤ d) : zCan d 28 [.ref r0, .ref 11, .int a2, .int a3] (xW B m) (some (.long x.1), xW B x.2) := by
  obtain ⟨e, rfl⟩ : ∃ e, d = e + 1 := ⟨d - 1, by omega⟩
  refine zCan_body (nL := 7) (rt := (some .long)) (cd := zc28) (xg28) ⟨Nat.le_of_ble_eq_true rfl, by decide⟩ (Nat.le_refl _) ?_
  exact T28_R_11t H hd F r0 nn hr0 rfl rfl rfl rfl h
/-- LentTools$Rule.lendAll -/
def D27_R_11t_66 (F : Nat) (r0 nn : Nat) (g2 : Int32 → xS → Option (Unit × xS)) (g18 : Int32 → Int32 → Int64 → Int32 → xS → Option (Unit × xS)) (v2 : Int32) (v3 : Int32) (v4 : Int64) (v6 : Int32) (v7 : Int64) (m : xS) : Option (Unit × xS) :=
  g18 v2 v3 v4 (v6 + Int32.ofInt 1) m
set_option maxRecDepth 20000 in
theorem T27_R_11t_66 {B : zHp} (H : yH0 B) {e : Nat} (he : 6 ≤ e + 1) (F : Nat) (r0 nn : Nat) (hr0 : rlB B r0 nn) (g2 : Int32 → xS → Option (Unit × xS)) (g18 : Int32 → Int32 → Int64 → Int32 → xS → Option (Unit × xS)) (k2 : ∀ {v2 : Int32} {lv : List (Nat × Value)} {m : xS} {x : Unit × xS}, zld lv 0 = some (.ref r0) → zld lv 1 = some (.ref 11) → zld lv 2 = some (.int v2) → g2 v2 m = some x → zR none e 9 none zc27 (2, lv, []) (xW B m) (none, xW B x.2)) (k18 : ∀ {v2 : Int32} {v3 : Int32} {v4 : Int64} {v6 : Int32} {lv : List (Nat × Value)} {m : xS} {x : Unit × xS}, zld lv 0 = some (.ref r0) → zld lv 1 = some (.ref 11) → zld lv 2 = some (.int v2) → zld lv 3 = some (.int v3) → zld lv 4 = some (.long v4) → zld lv 6 = some (.int v6) → g18 v2 v3 v4 v6 m = some x → zR none e 9 none zc27 (18, lv, []) (xW B m) (none, xW B x.2)) {v2 : Int32} {v3 : Int32} {v4 : Int64} {v6 : Int32} {v7 : Int64} {lv : List (Nat × Value)} {m : xS} {x : Unit × xS} (l0 : zld lv 0 = some (.ref r0)) (l1 : zld lv 1 = some (.ref 11)) (l2 : zld lv 2 = some (.int v2)) (l3 : zld lv 3 = some (.int v3)) (l4 : zld lv 4 = some (.long v4)) (l6 : zld lv 6 = some (.int v6)) (l7 : zld lv 7 = some (.long v7)) (h : D27_R_11t_66 F r0 nn g2 g18 v2 v3 v4 v6 v7 m = some x) : zR none e 9 none zc27 (66, lv, []) (xW B m) (none, xW B x.2) := by
  unfold D27_R_11t_66 at h
  refine q_inc (i := 6) (n := 1) (q := (.iinc 6 1, 3, 0, 0, .null)) rfl (fun _ => rfl) l6 (by decide) ?_
  have l0_1 : zld (zs1 lv 6 (.int (v6 + Int32.ofInt 1))) 0 = some (.ref r0) := x_o1 l0 rfl rfl
  have l1_1 : zld (zs1 lv 6 (.int (v6 + Int32.ofInt 1))) 1 = some (.ref 11) := x_o1 l1 rfl rfl
  have l2_1 : zld (zs1 lv 6 (.int (v6 + Int32.ofInt 1))) 2 = some (.int v2) := x_o1 l2 rfl rfl
  have l3_1 : zld (zs1 lv 6 (.int (v6 + Int32.ofInt 1))) 3 = some (.int v3) := x_o1 l3 rfl rfl
  have l4_1 : zld (zs1 lv 6 (.int (v6 + Int32.ofInt 1))) 4 = some (.long v4) := x_o1 l4 rfl rfl
  have l6_1 : zld (zs1 lv 6 (.int (v6 + Int32.ofInt 1))) 6 = some (.int (v6 + Int32.ofInt 1)) := zs1_ld _ _ _
  have l7_1 : zld (zs1 lv 6 (.int (v6 + Int32.ofInt 1))) 7 = some (.long v7) := x_o1 l7 rfl rfl
  generalize (zs1 lv 6 (.int (v6 + Int32.ofInt 1))) = lv1 at *
  refine r_s (fr' := (18, lv1, [])) (hp' := xW B m) (q := (.goto (-51), 3, 18, 0, .null)) rfl (fun _ => rfl) (Nat.le_refl _) ?_
  exact k18 l0_1 l1_1 l2_1 l3_1 l4_1 l6_1 h
def D27_R_11t_49 (F : Nat) (r0 nn : Nat) (g2 : Int32 → xS → Option (Unit × xS)) (g18 : Int32 → Int32 → Int64 → Int32 → xS → Option (Unit × xS)) (v2 : Int32) (v3 : Int32) (v4 : Int64) (v6 : Int32) (w0 : Int64) (m : xS) : Option (Unit × xS) :=
  if zcmp .le (lg_cmp w0 v4) 0 = true then
    D27_R_11t_66 F r0 nn g2 g18 v2 v3 v4 v6 w0 m
  else
    D27_R_11t_66 F r0 nn g2 g18 v2 v6 w0 v6 w0 m
set_option maxRecDepth 20000 in
theorem T27_R_11t_49 {B : zHp} (H : yH0 B) {e : Nat} (he : 6 ≤ e + 1) (F : Nat) (r0 nn : Nat) (hr0 : rlB B r0 nn) (g2 : Int32 → xS → Option (Unit × xS)) (g18 : Int32 → Int32 → Int64 → Int32 → xS → Option (Unit × xS)) (k2 : ∀ {v2 : Int32} {lv : List (Nat × Value)} {m : xS} {x : Unit × xS}, zld lv 0 = some (.ref r0) → zld lv 1 = some (.ref 11) → zld lv 2 = some (.int v2) → g2 v2 m = some x → zR none e 9 none zc27 (2, lv, []) (xW B m) (none, xW B x.2)) (k18 : ∀ {v2 : Int32} {v3 : Int32} {v4 : Int64} {v6 : Int32} {lv : List (Nat × Value)} {m : xS} {x : Unit × xS}, zld lv 0 = some (.ref r0) → zld lv 1 = some (.ref 11) → zld lv 2 = some (.int v2) → zld lv 3 = some (.int v3) → zld lv 4 = some (.long v4) → zld lv 6 = some (.int v6) → g18 v2 v3 v4 v6 m = some x → zR none e 9 none zc27 (18, lv, []) (xW B m) (none, xW B x.2)) {v2 : Int32} {v3 : Int32} {v4 : Int64} {v6 : Int32} {w0 : Int64} {lv : List (Nat × Value)} {m : xS} {x : Unit × xS} (l0 : zld lv 0 = some (.ref r0)) (l1 : zld lv 1 = some (.ref 11)) (l2 : zld lv 2 = some (.int v2)) (l3 : zld lv 3 = some (.int v3)) (l4 : zld lv 4 = some (.long v4)) (l6 : zld lv 6 = some (.int v6)) (h : D27_R_11t_49 F r0 nn g2 g18 v2 v3 v4 v6 w0 m = some x) : zR none e 9 none zc27 (49, lv, [.long w0]) (xW B m) (none, xW B x.2) := by
  unfold D27_R_11t_49 at h
  refine q_sl (k := 2) (i := 7) (q := (.lstore 7, 2, 0, 0, .null)) rfl (fun _ => rfl) (by decide) ?_
  have l0_1 : zld (zs2 lv 7 (.long w0)) 0 = some (.ref r0) := x_o2 l0 rfl rfl rfl
  have l1_1 : zld (zs2 lv 7 (.long w0)) 1 = some (.ref 11) := x_o2 l1 rfl rfl rfl
  have l2_1 : zld (zs2 lv 7 (.long w0)) 2 = some (.int v2) := x_o2 l2 rfl rfl rfl
  have l3_1 : zld (zs2 lv 7 (.long w0)) 3 = some (.int v3) := x_o2 l3 rfl rfl rfl
  have l4_1 : zld (zs2 lv 7 (.long w0)) 4 = some (.long v4) := x_o2 l4 rfl rfl rfl
  have l6_1 : zld (zs2 lv 7 (.long w0)) 6 = some (.int v6) := x_o2 l6 rfl rfl rfl
  have l7_1 : zld (zs2 lv 7 (.long w0)) 7 = some (.long w0) := zs2_ld _ _ _
  generalize (zs2 lv 7 (.long w0)) = lv1 at *
  refine q_ll (k := 2) (i := 7) (q := (.lload 7, 2, 0, 0, .null)) rfl (fun _ => rfl) l7_1 ?_
  refine q_ll (k := 2) (i := 4) (q := (.lload 4, 2, 0, 0, .null)) rfl (fun _ => rfl) l4_1 ?_
  refine r_s (fr' := (56, lv1, [.int (lg_cmp w0 v4)])) (hp' := xW B m) (q := (.lcmp, 1, 0, 0, .null)) rfl (fun _ => rfl) (Nat.le_refl _) ?_
  refine r_if (len := 3) (a := 66) (b := 0) (v0 := .null) (cn := .le) (off := 10) rfl (fun c => ?_) (fun c => ?_)
  · rw [if_pos c] at h
    exact T27_R_11t_66 H he F r0 nn hr0 _ _ k2 k18 l0_1 l1_1 l2_1 l3_1 l4_1 l6_1 l7_1 h
  · rw [if_neg (by rw [c]; decide)] at h
    refine q_ll (k := 2) (i := 7) (q := (.lload 7, 2, 0, 0, .null)) rfl (fun _ => rfl) l7_1 ?_
    refine q_sl (k := 2) (i := 4) (q := (.lstore 4, 2, 0, 0, .null)) rfl (fun _ => rfl) (by decide) ?_
    have l0_2 : zld (zs2 lv1 4 (.long w0)) 0 = some (.ref r0) := x_o2 l0_1 rfl rfl rfl
    have l1_2 : zld (zs2 lv1 4 (.long w0)) 1 = some (.ref 11) := x_o2 l1_1 rfl rfl rfl
    have l2_2 : zld (zs2 lv1 4 (.long w0)) 2 = some (.int v2) := x_o2 l2_1 rfl rfl rfl
    have l3_2 : zld (zs2 lv1 4 (.long w0)) 3 = some (.int v3) := x_o2 l3_1 rfl rfl rfl
    have l4_2 : zld (zs2 lv1 4 (.long w0)) 4 = some (.long w0) := zs2_ld _ _ _
    have l6_2 : zld (zs2 lv1 4 (.long w0)) 6 = some (.int v6) := x_o2 l6_1 rfl rfl rfl
    have l7_2 : zld (zs2 lv1 4 (.long w0)) 7 = some (.long w0) := x_o2 l7_1 rfl rfl rfl
    generalize (zs2 lv1 4 (.long w0)) = lv2 at *
    refine q_li (k := 2) (i := 6) (q := (.iload 6, 2, 0, 0, .null)) rfl (fun _ => rfl) l6_2 ?_
    refine q_si (k := 1) (i := 3) (q := (.istore_n 3, 1, 0, 0, .null)) rfl (fun _ => rfl) (by decide) ?_
    have l0_3 : zld (zs1 lv2 3 (.int v6)) 0 = some (.ref r0) := x_o1 l0_2 rfl rfl
    have l1_3 : zld (zs1 lv2 3 (.int v6)) 1 = some (.ref 11) := x_o1 l1_2 rfl rfl
    have l2_3 : zld (zs1 lv2 3 (.int v6)) 2 = some (.int v2) := x_o1 l2_2 rfl rfl
    have l3_3 : zld (zs1 lv2 3 (.int v6)) 3 = some (.int v6) := zs1_ld _ _ _
    have l4_3 : zld (zs1 lv2 3 (.int v6)) 4 = some (.long w0) := x_o1 l4_2 rfl rfl
    have l6_3 : zld (zs1 lv2 3 (.int v6)) 6 = some (.int v6) := x_o1 l6_2 rfl rfl
    have l7_3 : zld (zs1 lv2 3 (.int v6)) 7 = some (.long w0) := x_o1 l7_2 rfl rfl
    generalize (zs1 lv2 3 (.int v6)) = lv3 at *
    exact T27_R_11t_66 H he F r0 nn hr0 _ _ k2 k18 l0_3 l1_3 l2_3 l3_3 l4_3 l6_3 l7_3 h
def D27_R_11t_83 (F : Nat) (r0 nn : Nat) (g2 : Int32 → xS → Option (Unit × xS)) (v2 : Int32) (v3 : Int32) (v4 : Int64) (v6 : Int32) (m : xS) : Option (Unit × xS) :=
  g2 (v2 + Int32.ofInt 1) m
set_option maxRecDepth 20000 in
theorem T27_R_11t_83 {B : zHp} (H : yH0 B) {e : Nat} (he : 6 ≤ e + 1) (F : Nat) (r0 nn : Nat) (hr0 : rlB B r0 nn) (g2 : Int32 → xS → Option (Unit × xS)) (k2 : ∀ {v2 : Int32} {lv : List (Nat × Value)} {m : xS} {x : Unit × xS}, zld lv 0 = some (.ref r0) → zld lv 1 = some (.ref 11) → zld lv 2 = some (.int v2) → g2 v2 m = some x → zR none e 9 none zc27 (2, lv, []) (xW B m) (none, xW B x.2)) {v2 : Int32} {v3 : Int32} {v4 : Int64} {v6 : Int32} {lv : List (Nat × Value)} {m : xS} {x : Unit × xS} (l0 : zld lv 0 = some (.ref r0)) (l1 : zld lv 1 = some (.ref 11)) (l2 : zld lv 2 = some (.int v2)) (l3 : zld lv 3 = some (.int v3)) (l4 : zld lv 4 = some (.long v4)) (l6 : zld lv 6 = some (.int v6)) (h : D27_R_11t_83 F r0 nn g2 v2 v3 v4 v6 m = some x) : zR none e 9 none zc27 (83, lv, []) (xW B m) (none, xW B x.2) := by
  unfold D27_R_11t_83 at h
  refine q_inc (i := 2) (n := 1) (q := (.iinc 2 1, 3, 0, 0, .null)) rfl (fun _ => rfl) l2 (by decide) ?_
  have l0_1 : zld (zs1 lv 2 (.int (v2 + Int32.ofInt 1))) 0 = some (.ref r0) := x_o1 l0 rfl rfl
  have l1_1 : zld (zs1 lv 2 (.int (v2 + Int32.ofInt 1))) 1 = some (.ref 11) := x_o1 l1 rfl rfl
  have l2_1 : zld (zs1 lv 2 (.int (v2 + Int32.ofInt 1))) 2 = some (.int (v2 + Int32.ofInt 1)) := zs1_ld _ _ _
  have l3_1 : zld (zs1 lv 2 (.int (v2 + Int32.ofInt 1))) 3 = some (.int v3) := x_o1 l3 rfl rfl
  have l4_1 : zld (zs1 lv 2 (.int (v2 + Int32.ofInt 1))) 4 = some (.long v4) := x_o1 l4 rfl rfl
  have l6_1 : zld (zs1 lv 2 (.int (v2 + Int32.ofInt 1))) 6 = some (.int v6) := x_o1 l6 rfl rfl
  generalize (zs1 lv 2 (.int (v2 + Int32.ofInt 1))) = lv1 at *
  refine r_s (fr' := (2, lv1, [])) (hp' := xW B m) (q := (.goto (-84), 3, 2, 0, .null)) rfl (fun _ => rfl) (Nat.le_refl _) ?_
  exact k2 l0_1 l1_1 l2_1 h
def D27_R_11t_18 (F : Nat) (r0 nn : Nat) (g2 : Int32 → xS → Option (Unit × xS)) : Nat → Int32 → Int32 → Int64 → Int32 → xS → Option (Unit × xS)
  | 0, _, _, _, _, _ => none
  | f + 1, v2, v3, v4, v6, m =>
    (D77_11t F m).bind fun q21 =>
      if zcmp .ge v6 q21.1 = true then
        if zcmp .eq v3 (-1) = true then
          D27_R_11t_83 F r0 nn g2 v2 v3 v4 v6 q21.2
        else
          (D102_11t F v2 v3 q21.2).bind fun q80 =>
            D27_R_11t_83 F r0 nn g2 v2 v3 v4 v6 q80.2
      else
        (D101_11t F v2 v6 q21.2).bind fun q31 =>
          if zcmp .eq q31.1 0 = true then
            D27_R_11t_49 F r0 nn g2 (D27_R_11t_18 F r0 nn g2 f) v2 v3 v4 v6 0 q31.2
          else
            (D28_R_11t F r0 nn v2 v6 q31.2).bind fun q42 =>
              D27_R_11t_49 F r0 nn g2 (D27_R_11t_18 F r0 nn g2 f) v2 v3 v4 v6 q42.1 q42.2
set_option maxRecDepth 20000 in
theorem T27_R_11t_18 {B : zHp} (H : yH0 B) {e : Nat} (he : 6 ≤ e + 1) (F : Nat) (r0 nn : Nat) (hr0 : rlB B r0 nn) (g2 : Int32 → xS → Option (Unit × xS)) (k2 : ∀ {v2 : Int32} {lv : List (Nat × Value)} {m : xS} {x : Unit × xS}, zld lv 0 = some (.ref r0) → zld lv 1 = some (.ref 11) → zld lv 2 = some (.int v2) → g2 v2 m = some x → zR none e 9 none zc27 (2, lv, []) (xW B m) (none, xW B x.2)) : ∀ (f : Nat) {v2 : Int32} {v3 : Int32} {v4 : Int64} {v6 : Int32} {lv : List (Nat × Value)} {m : xS} {x : Unit × xS}, zld lv 0 = some (.ref r0) → zld lv 1 = some (.ref 11) → zld lv 2 = some (.int v2) → zld lv 3 = some (.int v3) → zld lv 4 = some (.long v4) → zld lv 6 = some (.int v6) → D27_R_11t_18 F r0 nn g2 f v2 v3 v4 v6 m = some x → zR none e 9 none zc27 (18, lv, []) (xW B m) (none, xW B x.2) := by
  intro f
  induction f with
  | zero => intro v2 v3 v4 v6 lv m x l0 l1 l2 l3 l4 l6 h; cases h
  | succ f ih =>
    intro v2 v3 v4 v6 lv m x l0 l1 l2 l3 l4 l6 h
    unfold D27_R_11t_18 at h
    refine q_li (k := 2) (i := 6) (q := (.iload 6, 2, 0, 0, .null)) rfl (fun _ => rfl) l6 ?_
    refine q_lr (k := 1) (i := 1) (q := (.aload_n 1, 1, 0, 0, .null)) rfl (fun _ => rfl) l1 ?_
    obtain ⟨q21, h21, h⟩ := xbind h
    refine r_call (ix := 11) (as := []) (rest := [.int v6]) (rv := some (.int q21.1)) (hp' := xW B q21.2) (pc := 21) rfl xr77 rfl rfl rfl (xkd H (by decide)) (Nat.le_of_ble_eq_true rfl) (Z77_11t H h21 (by omega)) (Nat.le_refl _) ?_
    refine r_ifc (len := 3) (a := 72) (b := 0) (v0 := .null) (cn := .ge) (off := 48) rfl (fun c => ?_) (fun c => ?_)
    · rw [if_pos c] at h
      refine q_li (k := 1) (i := 3) (q := (.iload_n 3, 1, 0, 0, .null)) rfl (fun _ => rfl) l3 ?_
      refine r_s (fr' := (74, lv, [.int (-1), .int v3])) (hp' := xW B q21.2) (q := (.iconst (-1), 1, 0, 0, .null)) rfl (fun _ => rfl) (Nat.le_refl _) ?_
      refine r_ifc (len := 3) (a := 83) (b := 0) (v0 := .null) (cn := .eq) (off := 9) rfl (fun c => ?_) (fun c => ?_)
      · rw [if_pos c] at h
        exact T27_R_11t_83 H he F r0 nn hr0 _ k2 l0 l1 l2 l3 l4 l6 h
      · rw [if_neg (by rw [c]; decide)] at h
        refine q_lr (k := 1) (i := 1) (q := (.aload_n 1, 1, 0, 0, .null)) rfl (fun _ => rfl) l1 ?_
        refine q_li (k := 1) (i := 2) (q := (.iload_n 2, 1, 0, 0, .null)) rfl (fun _ => rfl) l2 ?_
        refine q_li (k := 1) (i := 3) (q := (.iload_n 3, 1, 0, 0, .null)) rfl (fun _ => rfl) l3 ?_
        obtain ⟨q80, h80, h⟩ := xbind h
        refine r_call (ix := 11) (as := [.int v2, .int v3]) (rest := []) (rv := none) (hp' := xW B q80.2) (pc := 80) rfl xr102 rfl rfl rfl (xkd H (by decide)) (Nat.le_of_ble_eq_true rfl) (Z102_11t H h80 (by omega)) (Nat.le_refl _) ?_
        exact T27_R_11t_83 H he F r0 nn hr0 _ k2 l0 l1 l2 l3 l4 l6 h
    · rw [if_neg (by rw [c]; decide)] at h
      refine q_lr (k := 1) (i := 1) (q := (.aload_n 1, 1, 0, 0, .null)) rfl (fun _ => rfl) l1 ?_
      refine q_li (k := 1) (i := 2) (q := (.iload_n 2, 1, 0, 0, .null)) rfl (fun _ => rfl) l2 ?_
      refine q_li (k := 2) (i := 6) (q := (.iload 6, 2, 0, 0, .null)) rfl (fun _ => rfl) l6 ?_
      obtain ⟨q31, h31, h⟩ := xbind h
      refine r_call (ix := 11) (as := [.int v2, .int v6]) (rest := []) (rv := some (.int q31.1)) (hp' := xW B q31.2) (pc := 31) rfl xr101 rfl rfl rfl (xkd H (by decide)) (Nat.le_of_ble_eq_true rfl) (Z101_11t H h31 (by omega)) (Nat.le_refl _) ?_
      refine r_if (len := 3) (a := 48) (b := 0) (v0 := .null) (cn := .eq) (off := 14) rfl (fun c => ?_) (fun c => ?_)
      · rw [if_pos c] at h
        refine r_s (fr' := (49, lv, [.long 0])) (hp' := xW B q31.2) (q := (.lconst 0, 1, 0, 0, .null)) rfl (fun _ => rfl) (Nat.le_refl _) ?_
        exact T27_R_11t_49 H he F r0 nn hr0 _ _ k2 ih l0 l1 l2 l3 l4 l6 h
      · rw [if_neg (by rw [c]; decide)] at h
        refine q_lr (k := 1) (i := 0) (q := (.aload_n 0, 1, 0, 0, .null)) rfl (fun _ => rfl) l0 ?_
        refine q_lr (k := 1) (i := 1) (q := (.aload_n 1, 1, 0, 0, .null)) rfl (fun _ => rfl) l1 ?_
        refine q_li (k := 1) (i := 2) (q := (.iload_n 2, 1, 0, 0, .null)) rfl (fun _ => rfl) l2 ?_
        refine q_li (k := 2) (i := 6) (q := (.iload 6, 2, 0, 0, .null)) rfl (fun _ => rfl) l6 ?_
        obtain ⟨q42, h42, h⟩ := xbind h
        refine r_call (ix := r0) (as := [.ref 11, .int v2, .int v6]) (rest := []) (rv := some (.long q42.1)) (hp' := xW B q42.2) (pc := 42) rfl xr28 rfl rfl rfl (r_rkd hr0) (Nat.le_of_ble_eq_true rfl) (Z28_R_11t H hr0 h42 (by omega)) (Nat.le_refl _) ?_
        refine r_s (fr' := (49, lv, [.long q42.1])) (hp' := xW B q42.2) (q := (.goto 4, 3, 49, 0, .null)) rfl (fun _ => rfl) (Nat.le_refl _) ?_
        exact T27_R_11t_49 H he F r0 nn hr0 _ _ k2 ih l0 l1 l2 l3 l4 l6 h
def D27_R_11t_2 (F : Nat) (r0 nn : Nat) : Nat → Int32 → xS → Option (Unit × xS)
  | 0, _, _ => none
  | f + 1, v2, m =>
    (D79_11t F m).bind fun q4 =>
      if zcmp .ge v2 q4.1 = true then
        some ((), q4.2)
      else
        D27_R_11t_18 F r0 nn (D27_R_11t_2 F r0 nn f) F v2 (-1) 0 0 q4.2
set_option maxRecDepth 20000 in
theorem T27_R_11t_2 {B : zHp} (H : yH0 B) {e : Nat} (he : 6 ≤ e + 1) (F : Nat) (r0 nn : Nat) (hr0 : rlB B r0 nn) : ∀ (f : Nat) {v2 : Int32} {lv : List (Nat × Value)} {m : xS} {x : Unit × xS}, zld lv 0 = some (.ref r0) → zld lv 1 = some (.ref 11) → zld lv 2 = some (.int v2) → D27_R_11t_2 F r0 nn f v2 m = some x → zR none e 9 none zc27 (2, lv, []) (xW B m) (none, xW B x.2) := by
  intro f
  induction f with
  | zero => intro v2 lv m x l0 l1 l2 h; cases h
  | succ f ih =>
    intro v2 lv m x l0 l1 l2 h
    unfold D27_R_11t_2 at h
    refine q_li (k := 1) (i := 2) (q := (.iload_n 2, 1, 0, 0, .null)) rfl (fun _ => rfl) l2 ?_
    refine q_lr (k := 1) (i := 1) (q := (.aload_n 1, 1, 0, 0, .null)) rfl (fun _ => rfl) l1 ?_
    obtain ⟨q4, h4, h⟩ := xbind h
    refine r_call (ix := 11) (as := []) (rest := [.int v2]) (rv := some (.int q4.1)) (hp' := xW B q4.2) (pc := 4) rfl xr79 rfl rfl rfl (xkd H (by decide)) (Nat.le_of_ble_eq_true rfl) (Z79_11t H h4 (by omega)) (Nat.le_refl _) ?_
    refine r_ifc (len := 3) (a := 89) (b := 0) (v0 := .null) (cn := .ge) (off := 82) rfl (fun c => ?_) (fun c => ?_)
    · rw [if_pos c] at h
      obtain rfl := Option.some.inj h
      exact r_ret (q := (.return_, 1, 0, 0, .null)) rfl rfl (fun _ => rfl)
    · rw [if_neg (by rw [c]; decide)] at h
      refine r_s (fr' := (11, lv, [.int (-1)])) (hp' := xW B q4.2) (q := (.iconst (-1), 1, 0, 0, .null)) rfl (fun _ => rfl) (Nat.le_refl _) ?_
      refine q_si (k := 1) (i := 3) (q := (.istore_n 3, 1, 0, 0, .null)) rfl (fun _ => rfl) (by decide) ?_
      have l0_1 : zld (zs1 lv 3 (.int (-1))) 0 = some (.ref r0) := x_o1 l0 rfl rfl
      have l1_1 : zld (zs1 lv 3 (.int (-1))) 1 = some (.ref 11) := x_o1 l1 rfl rfl
      have l2_1 : zld (zs1 lv 3 (.int (-1))) 2 = some (.int v2) := x_o1 l2 rfl rfl
      have l3_1 : zld (zs1 lv 3 (.int (-1))) 3 = some (.int (-1)) := zs1_ld _ _ _
      generalize (zs1 lv 3 (.int (-1))) = lv1 at *
      refine r_s (fr' := (13, lv1, [.long 0])) (hp' := xW B q4.2) (q := (.lconst 0, 1, 0, 0, .null)) rfl (fun _ => rfl) (Nat.le_refl _) ?_
      refine q_sl (k := 2) (i := 4) (q := (.lstore 4, 2, 0, 0, .null)) rfl (fun _ => rfl) (by decide) ?_
      have l0_2 : zld (zs2 lv1 4 (.long 0)) 0 = some (.ref r0) := x_o2 l0_1 rfl rfl rfl
      have l1_2 : zld (zs2 lv1 4 (.long 0)) 1 = some (.ref 11) := x_o2 l1_1 rfl rfl rfl
      have l2_2 : zld (zs2 lv1 4 (.long 0)) 2 = some (.int v2) := x_o2 l2_1 rfl rfl rfl
      have l3_2 : zld (zs2 lv1 4 (.long 0)) 3 = some (.int (-1)) := x_o2 l3_1 rfl rfl rfl
      have l4_2 : zld (zs2 lv1 4 (.long 0)) 4 = some (.long 0) := zs2_ld _ _ _
      generalize (zs2 lv1 4 (.long 0)) = lv2 at *
      refine r_s (fr' := (16, lv2, [.int 0])) (hp' := xW B q4.2) (q := (.iconst 0, 1, 0, 0, .null)) rfl (fun _ => rfl) (Nat.le_refl _) ?_
      refine q_si (k := 2) (i := 6) (q := (.istore 6, 2, 0, 0, .null)) rfl (fun _ => rfl) (by decide) ?_
      have l0_3 : zld (zs1 lv2 6 (.int 0)) 0 = some (.ref r0) := x_o1 l0_2 rfl rfl
      have l1_3 : zld (zs1 lv2 6 (.int 0)) 1 = some (.ref 11) := x_o1 l1_2 rfl rfl
      have l2_3 : zld (zs1 lv2 6 (.int 0)) 2 = some (.int v2) := x_o1 l2_2 rfl rfl
      have l3_3 : zld (zs1 lv2 6 (.int 0)) 3 = some (.int (-1)) := x_o1 l3_2 rfl rfl
      have l4_3 : zld (zs1 lv2 6 (.int 0)) 4 = some (.long 0) := x_o1 l4_2 rfl rfl
      have l6_3 : zld (zs1 lv2 6 (.int 0)) 6 = some (.int 0) := zs1_ld _ _ _
      generalize (zs1 lv2 6 (.int 0)) = lv3 at *
      exact T27_R_11t_18 H he F r0 nn hr0 _ ih F l0_3 l1_3 l2_3 l3_3 l4_3 l6_3 h
def D27_R_11t (F : Nat) (r0 nn : Nat) (m : xS) : Option (Unit × xS) :=
  D27_R_11t_2 F r0 nn F 0 m
set_option maxRecDepth 20000 in
theorem T27_R_11t {B : zHp} (H : yH0 B) {e : Nat} (he : 6 ≤ e + 1) (F : Nat) (r0 nn : Nat) (hr0 : rlB B r0 nn) {lv : List (Nat × Value)} {m : xS} {x : Unit × xS} (l0 : zld lv 0 = some (.ref r0)) (l1 : zld lv 1 = some (.ref 11)) (h : D27_R_11t F r0 nn m = some x) : zR none e 9 none zc27 (0, lv, []) (xW B m) (none, xW B x.2) := by
  unfold D27_R_11t at h
  refine r_s (fr' := (1, lv, [.int 0])) (hp' := xW B m) (q := (.iconst 0, 1, 0, 0, .null)) rfl (fun _ => rfl) (Nat.le_refl _) ?_
  refine q_si (k := 1) (i := 2) (q := (.istore_n 2, 1, 0, 0, .null)) rfl (fun _ => rfl) (by decide) ?_
  have l0_1 : zld (zs1 lv 2 (.int 0)) 0 = some (.ref r0) := x_o1 l0 rfl rfl
  have l1_1 : zld (zs1 lv 2 (.int 0)) 1 = some (.ref 11) := x_o1 l1 rfl rfl
  have l2_1 : zld (zs1 lv 2 (.int 0)) 2 = some (.int 0) := zs1_ld _ _ _
  generalize (zs1 lv 2 (.int 0)) = lv1 at *
  exact T27_R_11t_2 H he F r0 nn hr0 F l0_1 l1_1 l2_1 h
set_option maxRecDepth 20000 in
theorem Z27_R_11t {B : zHp} (H : yH0 B) {F : Nat} {r0 nn : Nat} (hr0 : rlB B r0 nn) {m : xS} {x : Unit × xS} (h : D27_R_11t F r0 nn m = some x) {d : Nat} (hd : 6 ≤ d) : zCan d 27 [.ref r0, .ref 11] (xW B m) (none, xW B x.2) := by
  obtain ⟨e, rfl⟩ : ∃ e, d = e + 1 := ⟨d - 1, by omega⟩
  refine zCan_body (nL := 9) (rt := none) (cd := zc27) (xg27) ⟨Nat.le_of_ble_eq_true rfl, by decide⟩ (Nat.le_refl _) ?_
  exact T27_R_11t H hd F r0 nn hr0 rfl rfl h
/-- LentTools$Village.doneBits -/
def D110_11t_26 (F : Nat) (g4 : Int32 → Int32 → xS → Option (Int32 × xS)) (v1 : Int32) (v2 : Int32) (m : xS) : Option (Int32 × xS) :=
  g4 v1 (v2 + Int32.ofInt 1) m
set_option maxRecDepth 20000 in
theorem T110_11t_26 {B : zHp} (H : yH0 B) {e : Nat} (he : 3 ≤ e + 1) (F : Nat) (g4 : Int32 → Int32 → xS → Option (Int32 × xS)) (k4 : ∀ {v1 : Int32} {v2 : Int32} {lv : List (Nat × Value)} {m : xS} {x : Int32 × xS}, zld lv 0 = some (.ref 11) → zld lv 1 = some (.int v1) → zld lv 2 = some (.int v2) → g4 v1 v2 m = some x → zR none e 3 (some .int) zc110 (4, lv, []) (xW B m) (some (.int x.1), xW B x.2)) {v1 : Int32} {v2 : Int32} {lv : List (Nat × Value)} {m : xS} {x : Int32 × xS} (l0 : zld lv 0 = some (.ref 11)) (l1 : zld lv 1 = some (.int v1)) (l2 : zld lv 2 = some (.int v2)) (h : D110_11t_26 F g4 v1 v2 m = some x) : zR none e 3 (some .int) zc110 (26, lv, []) (xW B m) (some (.int x.1), xW B x.2) := by
  unfold D110_11t_26 at h
  refine q_inc (i := 2) (n := 1) (q := (.iinc 2 1, 3, 0, 0, .null)) rfl (fun _ => rfl) l2 (by decide) ?_
  have l0_1 : zld (zs1 lv 2 (.int (v2 + Int32.ofInt 1))) 0 = some (.ref 11) := x_o1 l0 rfl rfl
  have l1_1 : zld (zs1 lv 2 (.int (v2 + Int32.ofInt 1))) 1 = some (.int v1) := x_o1 l1 rfl rfl
  have l2_1 : zld (zs1 lv 2 (.int (v2 + Int32.ofInt 1))) 2 = some (.int (v2 + Int32.ofInt 1)) := zs1_ld _ _ _
  generalize (zs1 lv 2 (.int (v2 + Int32.ofInt 1))) = lv1 at *
  refine r_s (fr' := (4, lv1, [])) (hp' := xW B m) (q := (.goto (-25), 3, 4, 0, .null)) rfl (fun _ => rfl) (Nat.le_refl _) ?_
  exact k4 l0_1 l1_1 l2_1 h
def D110_11t_4 (F : Nat) : Nat → Int32 → Int32 → xS → Option (Int32 × xS)
  | 0, _, _, _ => none
  | f + 1, v1, v2, m =>
    (D80_11t F m).bind fun q6 =>
      if zcmp .ge v2 q6.1 = true then
        some (v1, q6.2)
      else
        (D106_11t F v2 q6.2).bind fun q14 =>
          if zcmp .eq q14.1 0 = true then
            D110_11t_26 F (D110_11t_4 F f) v1 v2 q14.2
          else
            D110_11t_26 F (D110_11t_4 F f) (v1 ||| (1 <<< (v2 &&& 31))) v2 q14.2
set_option maxRecDepth 20000 in
theorem T110_11t_4 {B : zHp} (H : yH0 B) {e : Nat} (he : 3 ≤ e + 1) (F : Nat) : ∀ (f : Nat) {v1 : Int32} {v2 : Int32} {lv : List (Nat × Value)} {m : xS} {x : Int32 × xS}, zld lv 0 = some (.ref 11) → zld lv 1 = some (.int v1) → zld lv 2 = some (.int v2) → D110_11t_4 F f v1 v2 m = some x → zR none e 3 (some .int) zc110 (4, lv, []) (xW B m) (some (.int x.1), xW B x.2) := by
  intro f
  induction f with
  | zero => intro v1 v2 lv m x l0 l1 l2 h; cases h
  | succ f ih =>
    intro v1 v2 lv m x l0 l1 l2 h
    unfold D110_11t_4 at h
    refine q_li (k := 1) (i := 2) (q := (.iload_n 2, 1, 0, 0, .null)) rfl (fun _ => rfl) l2 ?_
    refine q_lr (k := 1) (i := 0) (q := (.aload_n 0, 1, 0, 0, .null)) rfl (fun _ => rfl) l0 ?_
    obtain ⟨q6, h6, h⟩ := xbind h
    refine r_call (ix := 11) (as := []) (rest := [.int v2]) (rv := some (.int q6.1)) (hp' := xW B q6.2) (pc := 6) rfl xr80 rfl rfl rfl (xkd H (by decide)) (Nat.le_of_ble_eq_true rfl) (Z80_11t H h6 (by omega)) (Nat.le_refl _) ?_
    refine r_ifc (len := 3) (a := 32) (b := 0) (v0 := .null) (cn := .ge) (off := 23) rfl (fun c => ?_) (fun c => ?_)
    · rw [if_pos c] at h
      refine q_li (k := 1) (i := 1) (q := (.iload_n 1, 1, 0, 0, .null)) rfl (fun _ => rfl) l1 ?_
      obtain rfl := Option.some.inj h
      exact q_ri (q := (.ireturn, 1, 0, 0, .null)) rfl (fun _ => rfl) rfl rfl
    · rw [if_neg (by rw [c]; decide)] at h
      refine q_lr (k := 1) (i := 0) (q := (.aload_n 0, 1, 0, 0, .null)) rfl (fun _ => rfl) l0 ?_
      refine q_li (k := 1) (i := 2) (q := (.iload_n 2, 1, 0, 0, .null)) rfl (fun _ => rfl) l2 ?_
      obtain ⟨q14, h14, h⟩ := xbind h
      refine r_call (ix := 11) (as := [.int v2]) (rest := []) (rv := some (.int q14.1)) (hp' := xW B q14.2) (pc := 14) rfl xr106 rfl rfl rfl (xkd H (by decide)) (Nat.le_of_ble_eq_true rfl) (Z106_11t H h14 (by omega)) (Nat.le_refl _) ?_
      refine r_if (len := 3) (a := 26) (b := 0) (v0 := .null) (cn := .eq) (off := 9) rfl (fun c => ?_) (fun c => ?_)
      · rw [if_pos c] at h
        exact T110_11t_26 H he F _ ih l0 l1 l2 h
      · rw [if_neg (by rw [c]; decide)] at h
        refine q_li (k := 1) (i := 1) (q := (.iload_n 1, 1, 0, 0, .null)) rfl (fun _ => rfl) l1 ?_
        refine r_s (fr' := (22, lv, [.int 1, .int v1])) (hp' := xW B q14.2) (q := (.iconst 1, 1, 0, 0, .null)) rfl (fun _ => rfl) (Nat.le_refl _) ?_
        refine q_li (k := 1) (i := 2) (q := (.iload_n 2, 1, 0, 0, .null)) rfl (fun _ => rfl) l2 ?_
        refine r_s (fr' := (24, lv, [.int (1 <<< (v2 &&& 31)), .int v1])) (hp' := xW B q14.2) (q := (.ishl, 1, 0, 0, .null)) rfl (fun _ => rfl) (Nat.le_refl _) ?_
        refine r_s (fr' := (25, lv, [.int (v1 ||| (1 <<< (v2 &&& 31)))])) (hp' := xW B q14.2) (q := (.ior, 1, 0, 0, .null)) rfl (fun _ => rfl) (Nat.le_refl _) ?_
        refine q_si (k := 1) (i := 1) (q := (.istore_n 1, 1, 0, 0, .null)) rfl (fun _ => rfl) (by decide) ?_
        have l0_1 : zld (zs1 lv 1 (.int (v1 ||| (1 <<< (v2 &&& 31))))) 0 = some (.ref 11) := x_o1 l0 rfl rfl
        have l1_1 : zld (zs1 lv 1 (.int (v1 ||| (1 <<< (v2 &&& 31))))) 1 = some (.int (v1 ||| (1 <<< (v2 &&& 31)))) := zs1_ld _ _ _
        have l2_1 : zld (zs1 lv 1 (.int (v1 ||| (1 <<< (v2 &&& 31))))) 2 = some (.int v2) := x_o1 l2 rfl rfl
        generalize (zs1 lv 1 (.int (v1 ||| (1 <<< (v2 &&& 31))))) = lv1 at *
        exact T110_11t_26 H he F _ ih l0_1 l1_1 l2_1 h
def D110_11t (F : Nat) (m : xS) : Option (Int32 × xS) :=
  D110_11t_4 F F 0 0 m
set_option maxRecDepth 20000 in
theorem T110_11t {B : zHp} (H : yH0 B) {e : Nat} (he : 3 ≤ e + 1) (F : Nat) {lv : List (Nat × Value)} {m : xS} {x : Int32 × xS} (l0 : zld lv 0 = some (.ref 11)) (h : D110_11t F m = some x) : zR none e 3 (some .int) zc110 (0, lv, []) (xW B m) (some (.int x.1), xW B x.2) := by
  unfold D110_11t at h
  refine r_s (fr' := (1, lv, [.int 0])) (hp' := xW B m) (q := (.iconst 0, 1, 0, 0, .null)) rfl (fun _ => rfl) (Nat.le_refl _) ?_
  refine q_si (k := 1) (i := 1) (q := (.istore_n 1, 1, 0, 0, .null)) rfl (fun _ => rfl) (by decide) ?_
  have l0_1 : zld (zs1 lv 1 (.int 0)) 0 = some (.ref 11) := x_o1 l0 rfl rfl
  have l1_1 : zld (zs1 lv 1 (.int 0)) 1 = some (.int 0) := zs1_ld _ _ _
  generalize (zs1 lv 1 (.int 0)) = lv1 at *
  refine r_s (fr' := (3, lv1, [.int 0])) (hp' := xW B m) (q := (.iconst 0, 1, 0, 0, .null)) rfl (fun _ => rfl) (Nat.le_refl _) ?_
  refine q_si (k := 1) (i := 2) (q := (.istore_n 2, 1, 0, 0, .null)) rfl (fun _ => rfl) (by decide) ?_
  have l0_2 : zld (zs1 lv1 2 (.int 0)) 0 = some (.ref 11) := x_o1 l0_1 rfl rfl
  have l1_2 : zld (zs1 lv1 2 (.int 0)) 1 = some (.int 0) := x_o1 l1_1 rfl rfl
  have l2_2 : zld (zs1 lv1 2 (.int 0)) 2 = some (.int 0) := zs1_ld _ _ _
  generalize (zs1 lv1 2 (.int 0)) = lv2 at *
  exact T110_11t_4 H he F F l0_2 l1_2 l2_2 h
set_option maxRecDepth 20000 in
theorem Z110_11t {B : zHp} (H : yH0 B) {F : Nat} {m : xS} {x : Int32 × xS} (h : D110_11t F m = some x) {d : Nat} (hd : 3 ≤ d) : zCan d 110 [.ref 11] (xW B m) (some (.int x.1), xW B x.2) := by
  obtain ⟨e, rfl⟩ : ∃ e, d = e + 1 := ⟨d - 1, by omega⟩
  refine zCan_body (nL := 3) (rt := (some .int)) (cd := zc110) (xg110) ⟨Nat.le_of_ble_eq_true rfl, by decide⟩ (Nat.le_refl _) ?_
  exact T110_11t H hd F rfl h
/-- LentTools$Village.isAllDone -/
def D111_11t (F : Nat) (m : xS) : Option (Int32 × xS) :=
  (D110_11t F m).bind fun q1 =>
    (D80_11t F q1.2).bind fun q6 =>
      if zcmp .ne q1.1 ((1 <<< (q6.1 &&& 31)) - 1) = true then
        some (0, q6.2)
      else
        some (1, q6.2)
set_option maxRecDepth 20000 in
theorem T111_11t {B : zHp} (H : yH0 B) {e : Nat} (he : 4 ≤ e + 1) (F : Nat) {lv : List (Nat × Value)} {m : xS} {x : Int32 × xS} (l0 : zld lv 0 = some (.ref 11)) (h : D111_11t F m = some x) : zR none e 1 (some .boolean) zc111 (0, lv, []) (xW B m) (some (.int x.1), xW B x.2) := by
  unfold D111_11t at h
  refine q_lr (k := 1) (i := 0) (q := (.aload_n 0, 1, 0, 0, .null)) rfl (fun _ => rfl) l0 ?_
  obtain ⟨q1, h1, h⟩ := xbind h
  refine r_call (ix := 11) (as := []) (rest := []) (rv := some (.int q1.1)) (hp' := xW B q1.2) (pc := 1) rfl xr110 rfl rfl rfl (xkd H (by decide)) (Nat.le_of_ble_eq_true rfl) (Z110_11t H h1 (by omega)) (Nat.le_refl _) ?_
  refine r_s (fr' := (5, lv, [.int 1, .int q1.1])) (hp' := xW B q1.2) (q := (.iconst 1, 1, 0, 0, .null)) rfl (fun _ => rfl) (Nat.le_refl _) ?_
  refine q_lr (k := 1) (i := 0) (q := (.aload_n 0, 1, 0, 0, .null)) rfl (fun _ => rfl) l0 ?_
  obtain ⟨q6, h6, h⟩ := xbind h
  refine r_call (ix := 11) (as := []) (rest := [.int 1, .int q1.1]) (rv := some (.int q6.1)) (hp' := xW B q6.2) (pc := 6) rfl xr80 rfl rfl rfl (xkd H (by decide)) (Nat.le_of_ble_eq_true rfl) (Z80_11t H h6 (by omega)) (Nat.le_refl _) ?_
  refine r_s (fr' := (10, lv, [.int (1 <<< (q6.1 &&& 31)), .int q1.1])) (hp' := xW B q6.2) (q := (.ishl, 1, 0, 0, .null)) rfl (fun _ => rfl) (Nat.le_refl _) ?_
  refine r_s (fr' := (11, lv, [.int 1, .int (1 <<< (q6.1 &&& 31)), .int q1.1])) (hp' := xW B q6.2) (q := (.iconst 1, 1, 0, 0, .null)) rfl (fun _ => rfl) (Nat.le_refl _) ?_
  refine r_s (fr' := (12, lv, [.int ((1 <<< (q6.1 &&& 31)) - 1), .int q1.1])) (hp' := xW B q6.2) (q := (.isub, 1, 0, 0, .null)) rfl (fun _ => rfl) (Nat.le_refl _) ?_
  refine r_ifc (len := 3) (a := 19) (b := 0) (v0 := .null) (cn := .ne) (off := 7) rfl (fun c => ?_) (fun c => ?_)
  · rw [if_pos c] at h
    refine r_s (fr' := (20, lv, [.int 0])) (hp' := xW B q6.2) (q := (.iconst 0, 1, 0, 0, .null)) rfl (fun _ => rfl) (Nat.le_refl _) ?_
    obtain rfl := Option.some.inj h
    exact q_ri (q := (.ireturn, 1, 0, 0, .null)) rfl (fun _ => rfl) rfl rfl
  · rw [if_neg (by rw [c]; decide)] at h
    refine r_s (fr' := (16, lv, [.int 1])) (hp' := xW B q6.2) (q := (.iconst 1, 1, 0, 0, .null)) rfl (fun _ => rfl) (Nat.le_refl _) ?_
    refine r_s (fr' := (20, lv, [.int 1])) (hp' := xW B q6.2) (q := (.goto 4, 3, 20, 0, .null)) rfl (fun _ => rfl) (Nat.le_refl _) ?_
    obtain rfl := Option.some.inj h
    exact q_ri (q := (.ireturn, 1, 0, 0, .null)) rfl (fun _ => rfl) rfl rfl
set_option maxRecDepth 20000 in
theorem Z111_11t {B : zHp} (H : yH0 B) {F : Nat} {m : xS} {x : Int32 × xS} (h : D111_11t F m = some x) {d : Nat} (hd : 4 ≤ d) : zCan d 111 [.ref 11] (xW B m) (some (.int x.1), xW B x.2) := by
  obtain ⟨e, rfl⟩ : ∃ e, d = e + 1 := ⟨d - 1, by omega⟩
  refine zCan_body (nL := 1) (rt := (some .boolean)) (cd := zc111) (xg111) ⟨Nat.le_of_ble_eq_true rfl, by decide⟩ (Nat.le_refl _) ?_
  exact T111_11t H hd F rfl h
/-- LentTools.done -/
def D149_0_A_18 (F : Nat) (ru : Int32) (rk : Bool) (r0 nn : Nat) (v1 : Int32) (m : xS) : Option (Int32 × xS) :=
  some ((-1), m)
set_option maxRecDepth 20000 in
theorem T149_0_A_18 {B : zHp} (H : yH0 B) {e : Nat} (he : 7 ≤ e + 1) (F : Nat) (ru : Int32) (rk : Bool) (r0 nn : Nat) (hra : rk = true → rlA B ru r0 nn) {v1 : Int32} {lv : List (Nat × Value)} {m : xS} {x : Int32 × xS} (l0 : zld lv 0 = some (.ref 0)) (l1 : zld lv 1 = some (.int v1)) (h : D149_0_A_18 F ru rk r0 nn v1 m = some x) : zR none e 3 (some .int) zc149 (18, lv, []) (xW B m) (some (.int x.1), xW B x.2) := by
  unfold D149_0_A_18 at h
  refine r_s (fr' := (19, lv, [.int (-1)])) (hp' := xW B m) (q := (.iconst (-1), 1, 0, 0, .null)) rfl (fun _ => rfl) (Nat.le_refl _) ?_
  obtain rfl := Option.some.inj h
  exact q_ri (q := (.ireturn, 1, 0, 0, .null)) rfl (fun _ => rfl) rfl rfl
def D149_0_A_51 (F : Nat) (ru : Int32) (rk : Bool) (r0 nn : Nat) : Nat → Int32 → Int32 → xS → Option (Int32 × xS)
  | 0, _, _, _ => none
  | f + 1, v1, v2, m =>
    if zcmp .ge v2 60 = true then
      some ((-2), m)
    else
      if (rk && (v1 == ru)) = true then
        (D27_R_11t F r0 nn m).bind fun q67 =>
          (D109_11t F q67.2).bind fun q74 =>
            (D111_11t F q74.2).bind fun q81 =>
              if zcmp .eq q81.1 0 = true then
                (D112_11t F q81.2).bind fun q99 =>
                  D149_0_A_51 F ru rk r0 nn f v1 (v2 + Int32.ofInt 1) q99.2
              else
                (D81_11t F q81.2).bind fun q91 =>
                  some (q91.1, q91.2)
      else none
set_option maxRecDepth 20000 in
theorem T149_0_A_51 {B : zHp} (H : yH0 B) {e : Nat} (he : 7 ≤ e + 1) (F : Nat) (ru : Int32) (rk : Bool) (r0 nn : Nat) (hra : rk = true → rlA B ru r0 nn) : ∀ (f : Nat) {v1 : Int32} {v2 : Int32} {lv : List (Nat × Value)} {m : xS} {x : Int32 × xS}, zld lv 0 = some (.ref 0) → zld lv 1 = some (.int v1) → zld lv 2 = some (.int v2) → D149_0_A_51 F ru rk r0 nn f v1 v2 m = some x → zR none e 3 (some .int) zc149 (51, lv, []) (xW B m) (some (.int x.1), xW B x.2) := by
  intro f
  induction f with
  | zero => intro v1 v2 lv m x l0 l1 l2 h; cases h
  | succ f ih =>
    intro v1 v2 lv m x l0 l1 l2 h
    unfold D149_0_A_51 at h
    refine q_li (k := 1) (i := 2) (q := (.iload_n 2, 1, 0, 0, .null)) rfl (fun _ => rfl) l2 ?_
    refine r_s (fr' := (54, lv, [.int 60, .int v2])) (hp' := xW B m) (q := (.bipush 60, 2, 0, 0, .null)) rfl (fun _ => rfl) (Nat.le_refl _) ?_
    refine r_ifc (len := 3) (a := 108) (b := 0) (v0 := .null) (cn := .ge) (off := 54) rfl (fun c => ?_) (fun c => ?_)
    · rw [if_pos c] at h
      refine r_s (fr' := (110, lv, [.int (-2)])) (hp' := xW B m) (q := (.bipush (-2), 2, 0, 0, .null)) rfl (fun _ => rfl) (Nat.le_refl _) ?_
      obtain rfl := Option.some.inj h
      exact q_ri (q := (.ireturn, 1, 0, 0, .null)) rfl (fun _ => rfl) rfl rfl
    · rw [if_neg (by rw [c]; decide)] at h
      refine q_lr (k := 1) (i := 0) (q := (.aload_n 0, 1, 0, 0, .null)) rfl (fun _ => rfl) l0 ?_
      refine r_gr (c := 13) H (pc := 58) rfl (by decide) (by decide) ?_
      refine q_li (k := 1) (i := 1) (q := (.iload_n 1, 1, 0, 0, .null)) rfl (fun _ => rfl) l1 ?_
      obtain ⟨c1, h⟩ := xif h
      have hr0 := (hra (Bool.and_eq_true_iff.mp c1).1)
      refine q_raal hr0 (pc := 62) rfl (Bool.and_eq_true_iff.mp c1).2 ?_
      have hr0 := hr0.1
      refine q_lr (k := 1) (i := 0) (q := (.aload_n 0, 1, 0, 0, .null)) rfl (fun _ => rfl) l0 ?_
      refine r_gr (c := 11) H (pc := 64) rfl (by decide) (by decide) ?_
      obtain ⟨q67, h67, h⟩ := xbind h
      refine r_call (ix := r0) (as := [.ref 11]) (rest := []) (rv := none) (hp' := xW B q67.2) (pc := 67) rfl xr27 rfl rfl rfl (r_rkd hr0) (Nat.le_of_ble_eq_true rfl) (Z27_R_11t H hr0 h67 (by omega)) (Nat.le_refl _) ?_
      refine q_lr (k := 1) (i := 0) (q := (.aload_n 0, 1, 0, 0, .null)) rfl (fun _ => rfl) l0 ?_
      refine r_gr (c := 11) H (pc := 71) rfl (by decide) (by decide) ?_
      obtain ⟨q74, h74, h⟩ := xbind h
      refine r_call (ix := 11) (as := []) (rest := []) (rv := none) (hp' := xW B q74.2) (pc := 74) rfl xr109 rfl rfl rfl (xkd H (by decide)) (Nat.le_of_ble_eq_true rfl) (Z109_11t H h74 (by omega)) (Nat.le_refl _) ?_
      refine q_lr (k := 1) (i := 0) (q := (.aload_n 0, 1, 0, 0, .null)) rfl (fun _ => rfl) l0 ?_
      refine r_gr (c := 11) H (pc := 78) rfl (by decide) (by decide) ?_
      obtain ⟨q81, h81, h⟩ := xbind h
      refine r_call (ix := 11) (as := []) (rest := []) (rv := some (.int q81.1)) (hp' := xW B q81.2) (pc := 81) rfl xr111 rfl rfl rfl (xkd H (by decide)) (Nat.le_of_ble_eq_true rfl) (Z111_11t H h81 (by omega)) (Nat.le_refl _) ?_
      refine r_if (len := 3) (a := 95) (b := 0) (v0 := .null) (cn := .eq) (off := 11) rfl (fun c => ?_) (fun c => ?_)
      · rw [if_pos c] at h
        refine q_lr (k := 1) (i := 0) (q := (.aload_n 0, 1, 0, 0, .null)) rfl (fun _ => rfl) l0 ?_
        refine r_gr (c := 11) H (pc := 96) rfl (by decide) (by decide) ?_
        obtain ⟨q99, h99, h⟩ := xbind h
        refine r_call (ix := 11) (as := []) (rest := []) (rv := none) (hp' := xW B q99.2) (pc := 99) rfl xr112 rfl rfl rfl (xkd H (by decide)) (Nat.le_of_ble_eq_true rfl) (Z112_11t H h99 (by omega)) (Nat.le_refl _) ?_
        refine q_inc (i := 2) (n := 1) (q := (.iinc 2 1, 3, 0, 0, .null)) rfl (fun _ => rfl) l2 (by decide) ?_
        have l0_2 : zld (zs1 lv 2 (.int (v2 + Int32.ofInt 1))) 0 = some (.ref 0) := x_o1 l0 rfl rfl
        have l1_2 : zld (zs1 lv 2 (.int (v2 + Int32.ofInt 1))) 1 = some (.int v1) := x_o1 l1 rfl rfl
        have l2_2 : zld (zs1 lv 2 (.int (v2 + Int32.ofInt 1))) 2 = some (.int (v2 + Int32.ofInt 1)) := zs1_ld _ _ _
        generalize (zs1 lv 2 (.int (v2 + Int32.ofInt 1))) = lv2 at *
        refine r_s (fr' := (51, lv2, [])) (hp' := xW B q99.2) (q := (.goto (-54), 3, 51, 0, .null)) rfl (fun _ => rfl) (Nat.le_refl _) ?_
        exact ih l0_2 l1_2 l2_2 h
      · rw [if_neg (by rw [c]; decide)] at h
        refine q_lr (k := 1) (i := 0) (q := (.aload_n 0, 1, 0, 0, .null)) rfl (fun _ => rfl) l0 ?_
        refine r_gr (c := 11) H (pc := 88) rfl (by decide) (by decide) ?_
        obtain ⟨q91, h91, h⟩ := xbind h
        refine r_call (ix := 11) (as := []) (rest := []) (rv := some (.int q91.1)) (hp' := xW B q91.2) (pc := 91) rfl xr81 rfl rfl rfl (xkd H (by decide)) (Nat.le_of_ble_eq_true rfl) (Z81_11t H h91 (by omega)) (Nat.le_refl _) ?_
        obtain rfl := Option.some.inj h
        exact q_ri (q := (.ireturn, 1, 0, 0, .null)) rfl (fun _ => rfl) rfl rfl
def D149_0_A (F : Nat) (ru : Int32) (rk : Bool) (r0 nn : Nat) (v1 : Int32) (m : xS) : Option (Int32 × xS) :=
  (D76_9 F m).bind fun q4 =>
    if zcmp .eq q4.1 0 = true then
      D149_0_A_18 F ru rk r0 nn v1 q4.2
    else
      (D140_0_A F ru rk r0 nn v1 q4.2).bind fun q12 =>
        if zcmp .ne q12.1 0 = true then
          (D111_9 F q12.2).bind fun q24 =>
            if zcmp .eq q24.1 0 = true then
              (D70_11t_9 F q24.2).bind fun q46 =>
                D149_0_A_51 F ru rk r0 nn F v1 0 q46.2
            else
              (D81_9 F q24.2).bind fun q34 =>
                some (q34.1, q34.2)
        else
          D149_0_A_18 F ru rk r0 nn v1 q12.2
set_option maxRecDepth 20000 in
theorem T149_0_A {B : zHp} (H : yH0 B) {e : Nat} (he : 7 ≤ e + 1) (F : Nat) (ru : Int32) (rk : Bool) (r0 nn : Nat) (hra : rk = true → rlA B ru r0 nn) {v1 : Int32} {lv : List (Nat × Value)} {m : xS} {x : Int32 × xS} (l0 : zld lv 0 = some (.ref 0)) (l1 : zld lv 1 = some (.int v1)) (h : D149_0_A F ru rk r0 nn v1 m = some x) : zR none e 3 (some .int) zc149 (0, lv, []) (xW B m) (some (.int x.1), xW B x.2) := by
  unfold D149_0_A at h
  refine q_lr (k := 1) (i := 0) (q := (.aload_n 0, 1, 0, 0, .null)) rfl (fun _ => rfl) l0 ?_
  refine r_gr (c := 9) H (pc := 1) rfl (by decide) (by decide) ?_
  obtain ⟨q4, h4, h⟩ := xbind h
  refine r_call (ix := 9) (as := []) (rest := []) (rv := some (.int q4.1)) (hp' := xW B q4.2) (pc := 4) rfl xr76 rfl rfl rfl (xkd H (by decide)) (Nat.le_of_ble_eq_true rfl) (Z76_9 H h4 (by omega)) (Nat.le_refl _) ?_
  refine r_if (len := 3) (a := 18) (b := 0) (v0 := .null) (cn := .eq) (off := 11) rfl (fun c => ?_) (fun c => ?_)
  · rw [if_pos c] at h
    exact T149_0_A_18 H he F ru rk r0 nn hra l0 l1 h
  · rw [if_neg (by rw [c]; decide)] at h
    refine q_lr (k := 1) (i := 0) (q := (.aload_n 0, 1, 0, 0, .null)) rfl (fun _ => rfl) l0 ?_
    refine q_li (k := 1) (i := 1) (q := (.iload_n 1, 1, 0, 0, .null)) rfl (fun _ => rfl) l1 ?_
    obtain ⟨q12, h12, h⟩ := xbind h
    refine r_call (ix := 0) (as := [.int v1]) (rest := []) (rv := some (.int q12.1)) (hp' := xW B q12.2) (pc := 12) rfl xr140 rfl rfl rfl (xkd H (by decide)) (Nat.le_of_ble_eq_true rfl) (Z140_0_A H hra h12 (by omega)) (Nat.le_refl _) ?_
    refine r_if (len := 3) (a := 20) (b := 0) (v0 := .null) (cn := .ne) (off := 5) rfl (fun c => ?_) (fun c => ?_)
    · rw [if_pos c] at h
      refine q_lr (k := 1) (i := 0) (q := (.aload_n 0, 1, 0, 0, .null)) rfl (fun _ => rfl) l0 ?_
      refine r_gr (c := 9) H (pc := 21) rfl (by decide) (by decide) ?_
      obtain ⟨q24, h24, h⟩ := xbind h
      refine r_call (ix := 9) (as := []) (rest := []) (rv := some (.int q24.1)) (hp' := xW B q24.2) (pc := 24) rfl xr111 rfl rfl rfl (xkd H (by decide)) (Nat.le_of_ble_eq_true rfl) (Z111_9 H h24 (by omega)) (Nat.le_refl _) ?_
      refine r_if (len := 3) (a := 38) (b := 0) (v0 := .null) (cn := .eq) (off := 11) rfl (fun c => ?_) (fun c => ?_)
      · rw [if_pos c] at h
        refine q_lr (k := 1) (i := 0) (q := (.aload_n 0, 1, 0, 0, .null)) rfl (fun _ => rfl) l0 ?_
        refine r_gr (c := 11) H (pc := 39) rfl (by decide) (by decide) ?_
        refine q_lr (k := 1) (i := 0) (q := (.aload_n 0, 1, 0, 0, .null)) rfl (fun _ => rfl) l0 ?_
        refine r_gr (c := 9) H (pc := 43) rfl (by decide) (by decide) ?_
        obtain ⟨q46, h46, h⟩ := xbind h
        refine r_call (ix := 11) (as := [.ref 9]) (rest := []) (rv := none) (hp' := xW B q46.2) (pc := 46) rfl xr70 rfl rfl rfl (xkd H (by decide)) (Nat.le_of_ble_eq_true rfl) (Z70_11t_9 H h46 (by omega)) (Nat.le_refl _) ?_
        refine r_s (fr' := (50, lv, [.int 0])) (hp' := xW B q46.2) (q := (.iconst 0, 1, 0, 0, .null)) rfl (fun _ => rfl) (Nat.le_refl _) ?_
        refine q_si (k := 1) (i := 2) (q := (.istore_n 2, 1, 0, 0, .null)) rfl (fun _ => rfl) (by decide) ?_
        have l0_1 : zld (zs1 lv 2 (.int 0)) 0 = some (.ref 0) := x_o1 l0 rfl rfl
        have l1_1 : zld (zs1 lv 2 (.int 0)) 1 = some (.int v1) := x_o1 l1 rfl rfl
        have l2_1 : zld (zs1 lv 2 (.int 0)) 2 = some (.int 0) := zs1_ld _ _ _
        generalize (zs1 lv 2 (.int 0)) = lv1 at *
        exact T149_0_A_51 H he F ru rk r0 nn hra F l0_1 l1_1 l2_1 h
      · rw [if_neg (by rw [c]; decide)] at h
        refine q_lr (k := 1) (i := 0) (q := (.aload_n 0, 1, 0, 0, .null)) rfl (fun _ => rfl) l0 ?_
        refine r_gr (c := 9) H (pc := 31) rfl (by decide) (by decide) ?_
        obtain ⟨q34, h34, h⟩ := xbind h
        refine r_call (ix := 9) (as := []) (rest := []) (rv := some (.int q34.1)) (hp' := xW B q34.2) (pc := 34) rfl xr81 rfl rfl rfl (xkd H (by decide)) (Nat.le_of_ble_eq_true rfl) (Z81_9 H h34 (by omega)) (Nat.le_refl _) ?_
        obtain rfl := Option.some.inj h
        exact q_ri (q := (.ireturn, 1, 0, 0, .null)) rfl (fun _ => rfl) rfl rfl
    · rw [if_neg (by rw [c]; decide)] at h
      exact T149_0_A_18 H he F ru rk r0 nn hra l0 l1 h
set_option maxRecDepth 20000 in
theorem Z149_0_A {B : zHp} (H : yH0 B) {F : Nat} {ru : Int32} {rk : Bool} {r0 nn : Nat} (hra : rk = true → rlA B ru r0 nn) {a1 : Int32} {m : xS} {x : Int32 × xS} (h : D149_0_A F ru rk r0 nn a1 m = some x) {d : Nat} (hd : 7 ≤ d) : zCan d 149 [.ref 0, .int a1] (xW B m) (some (.int x.1), xW B x.2) := by
  obtain ⟨e, rfl⟩ : ∃ e, d = e + 1 := ⟨d - 1, by omega⟩
  refine zCan_body (nL := 3) (rt := (some .int)) (cd := zc149) (xg149) ⟨Nat.le_of_ble_eq_true rfl, by decide⟩ (Nat.le_refl _) ?_
  exact T149_0_A H hd F ru rk r0 nn hra rfl rfl h
end
