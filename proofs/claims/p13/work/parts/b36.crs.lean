/-! The class's sum over a rule. -/
/-- a work that is asked for -/
def wsel (s : Nat → Int32) (t h k : Nat) : Bool := s (124 + 4 * k) == Int32.ofNat h && (!pdn s k && s (124 + 4 * k + 1) == s (10 + 6 * t + 1))
/-- what works there want: the greatest, or all together -/
def wnt (s : Nat → Int32) (t h x : Nat) (g : Bool) : Nat → Nat → Int32 → Int32
  | _, 0, v => v
  | k, n + 1, v => wnt s t h x g (k + 1) n (if wsel s t h k = true then (if g = true then (if v < s (124 + 4 * k + x) then s (124 + 4 * k + x) else v) else v + s (124 + 4 * k + x)) else v)
/-- the words' values -/
def wrd (s : Nat → Int32) (t h : Nat) : Nat → Int32
  | 0 => Int32.ofNat t
  | 1 => s (10 + 6 * t + 1)
  | 2 => s (10 + 6 * t)
  | 3 => s (10 + 6 * t + 3)
  | 4 => Int32.ofNat h
  | 5 => s (10 + 6 * t + 4)
  | 6 => psh s t 1
  | 7 => s (10 + 6 * t + 5)
  | 8 => s 4
  | 9 => wnt s t h 2 true 0 (s 3).toInt.toNat 0
  | 10 => wnt s t h 3 false 0 (s 3).toInt.toNat 0
  | 11 => s (82 + 6 * h + (s (10 + 6 * t + 3)).toInt.toNat)
  | _ => if ptr s h (s (10 + 6 * t + 3)).toInt.toNat = true then 1 else 0
def wrl (s : Nat → Int32) (t h : Nat) : Nat → Int64 := fun i => (wrd s t h i).toInt64
theorem zcni {X k : Int32} {y : Int} (hk : k.toInt = y) : zcmp .ne X k = !decide (X.toInt = y) := by
  rw [zcn]
  congr 1
  by_cases h : X.toInt = y
  · rw [decide_eq_true h, show X = k from Int32.toInt_inj.mp (h.trans hk.symm)]
    exact beq_self_eq_true k
  · rw [decide_eq_false h]
    have : X ≠ k := fun z => h (by rw [z, hk])
    simp [this]

theorem tbu {x : Int32} {d : Nat} (hd : d < 6) : zcmp .eq ((x >>> (Int32.ofNat d &&& 31)) &&& 1) 0 = !tbt x d := by
  have i2 := BitVec.toInt_eq_toNat_cond x.toBitVec
  have j2 : x.toInt = x.toBitVec.toInt := rfl
  have l := x.toBitVec.isLt
  have hx : x.toInt = (x.toBitVec.toNat : Int) ∨ x.toInt = (x.toBitVec.toNat : Int) - 4294967296 := by
    rw [j2, i2]
    split
    · exact Or.inl rfl
    · exact Or.inr rfl
  have key : ∀ y : Int32, zcmp .eq (y &&& 1) 0 = decide (y.toInt % 2 = 0) := fun y => by
    have e : (y &&& 1).toBitVec.toNat = y.toBitVec.toNat % 2 := by
      rw [Int32.toBitVec_and, BitVec.toNat_and]
      exact Nat.and_two_pow_sub_one_eq_mod _ 1
    have k1 := BitVec.toInt_eq_toNat_cond (y &&& 1).toBitVec
    have k2 := BitVec.toInt_eq_toNat_cond y.toBitVec
    have m1 : (y &&& 1).toInt = (y &&& 1).toBitVec.toInt := rfl
    have m2 : y.toInt = y.toBitVec.toInt := rfl
    have l2 := y.toBitVec.isLt
    have e1 : (y &&& 1).toInt = y.toInt % 2 := by
      rw [m1, k1, m2, k2, e]
      split <;> split <;> omega
    rw [zce]
    by_cases z : y.toInt % 2 = 0
    · rw [decide_eq_true z, show (y &&& 1) = 0 from Int32.toInt_inj.mp (by rw [e1, z]; rfl)]
      rfl
    · rw [decide_eq_false z]
      have : (y &&& 1) ≠ 0 := fun q => z (by rw [← e1, q]; rfl)
      simp [this]
  match d, hd with
  | 0, _ =>
    have e : ((Int32.ofNat 0 &&& 31 : Int32)).toBitVec.smod 32 = 0#32 := by decide
    have s1 : (x >>> (Int32.ofNat 0 &&& 31)).toInt = x.toInt / 1 := by
      show ((x >>> (Int32.ofNat 0 &&& 31)).toBitVec).toInt = _
      rw [Int32.toBitVec_shiftRight, e]
      show (x.toBitVec.sshiftRight 0).toInt = _
      rw [BitVec.toInt_sshiftRight, Int.shiftRight_eq_div_pow]
      rfl
    have b : tbt x 0 = decide (x.toBitVec.toNat / 1 % 2 = 1) := Nat.testBit_eq_decide_div_mod_eq
    rw [key, s1, b]
    by_cases z : x.toBitVec.toNat / 1 % 2 = 1
    · rw [decide_eq_true z, decide_eq_false (by omega)]
      rfl
    · rw [decide_eq_false z, decide_eq_true (by omega)]
      rfl
  | 1, _ =>
    have e : ((Int32.ofNat 1 &&& 31 : Int32)).toBitVec.smod 32 = 1#32 := by decide
    have s1 : (x >>> (Int32.ofNat 1 &&& 31)).toInt = x.toInt / 2 := by
      show ((x >>> (Int32.ofNat 1 &&& 31)).toBitVec).toInt = _
      rw [Int32.toBitVec_shiftRight, e]
      show (x.toBitVec.sshiftRight 1).toInt = _
      rw [BitVec.toInt_sshiftRight, Int.shiftRight_eq_div_pow]
      rfl
    have b : tbt x 1 = decide (x.toBitVec.toNat / 2 % 2 = 1) := Nat.testBit_eq_decide_div_mod_eq
    rw [key, s1, b]
    by_cases z : x.toBitVec.toNat / 2 % 2 = 1
    · rw [decide_eq_true z, decide_eq_false (by omega)]
      rfl
    · rw [decide_eq_false z, decide_eq_true (by omega)]
      rfl
  | 2, _ =>
    have e : ((Int32.ofNat 2 &&& 31 : Int32)).toBitVec.smod 32 = 2#32 := by decide
    have s1 : (x >>> (Int32.ofNat 2 &&& 31)).toInt = x.toInt / 4 := by
      show ((x >>> (Int32.ofNat 2 &&& 31)).toBitVec).toInt = _
      rw [Int32.toBitVec_shiftRight, e]
      show (x.toBitVec.sshiftRight 2).toInt = _
      rw [BitVec.toInt_sshiftRight, Int.shiftRight_eq_div_pow]
      rfl
    have b : tbt x 2 = decide (x.toBitVec.toNat / 4 % 2 = 1) := Nat.testBit_eq_decide_div_mod_eq
    rw [key, s1, b]
    by_cases z : x.toBitVec.toNat / 4 % 2 = 1
    · rw [decide_eq_true z, decide_eq_false (by omega)]
      rfl
    · rw [decide_eq_false z, decide_eq_true (by omega)]
      rfl
  | 3, _ =>
    have e : ((Int32.ofNat 3 &&& 31 : Int32)).toBitVec.smod 32 = 3#32 := by decide
    have s1 : (x >>> (Int32.ofNat 3 &&& 31)).toInt = x.toInt / 8 := by
      show ((x >>> (Int32.ofNat 3 &&& 31)).toBitVec).toInt = _
      rw [Int32.toBitVec_shiftRight, e]
      show (x.toBitVec.sshiftRight 3).toInt = _
      rw [BitVec.toInt_sshiftRight, Int.shiftRight_eq_div_pow]
      rfl
    have b : tbt x 3 = decide (x.toBitVec.toNat / 8 % 2 = 1) := Nat.testBit_eq_decide_div_mod_eq
    rw [key, s1, b]
    by_cases z : x.toBitVec.toNat / 8 % 2 = 1
    · rw [decide_eq_true z, decide_eq_false (by omega)]
      rfl
    · rw [decide_eq_false z, decide_eq_true (by omega)]
      rfl
  | 4, _ =>
    have e : ((Int32.ofNat 4 &&& 31 : Int32)).toBitVec.smod 32 = 4#32 := by decide
    have s1 : (x >>> (Int32.ofNat 4 &&& 31)).toInt = x.toInt / 16 := by
      show ((x >>> (Int32.ofNat 4 &&& 31)).toBitVec).toInt = _
      rw [Int32.toBitVec_shiftRight, e]
      show (x.toBitVec.sshiftRight 4).toInt = _
      rw [BitVec.toInt_sshiftRight, Int.shiftRight_eq_div_pow]
      rfl
    have b : tbt x 4 = decide (x.toBitVec.toNat / 16 % 2 = 1) := Nat.testBit_eq_decide_div_mod_eq
    rw [key, s1, b]
    by_cases z : x.toBitVec.toNat / 16 % 2 = 1
    · rw [decide_eq_true z, decide_eq_false (by omega)]
      rfl
    · rw [decide_eq_false z, decide_eq_true (by omega)]
      rfl
  | 5, _ =>
    have e : ((Int32.ofNat 5 &&& 31 : Int32)).toBitVec.smod 32 = 5#32 := by decide
    have s1 : (x >>> (Int32.ofNat 5 &&& 31)).toInt = x.toInt / 32 := by
      show ((x >>> (Int32.ofNat 5 &&& 31)).toBitVec).toInt = _
      rw [Int32.toBitVec_shiftRight, e]
      show (x.toBitVec.sshiftRight 5).toInt = _
      rw [BitVec.toInt_sshiftRight, Int.shiftRight_eq_div_pow]
      rfl
    have b : tbt x 5 = decide (x.toBitVec.toNat / 32 % 2 = 1) := Nat.testBit_eq_decide_div_mod_eq
    rw [key, s1, b]
    by_cases z : x.toBitVec.toNat / 32 % 2 = 1
    · rw [decide_eq_true z, decide_eq_false (by omega)]
      rfl
    · rw [decide_eq_false z, decide_eq_true (by omega)]
      rfl
  | d + 6, z => omega
section PCRS
variable {s : Nat → Int32} {m : xS} {F : Nat}
theorem c92u (R : R32 s (m.1 10)) {a d : Nat} {v1 v2 : Int32} (h1 : v1 = Int32.ofNat a) (h2 : v2 = Int32.ofNat d) (ha : a < 6) (hd : d < 6) : D92_9 F v1 v2 m = some (pB (ptr s a d), m) := by
  subst h2
  unfold D92_9
  refine ob (c91_9 R h1 ha) (oi (p := !ptr s a d) ?_ (fun h => ?_) (fun h => ?_))
  · rw [tbu hd, R_tr R ha hd]
  · rw [show ptr s a d = false by simpa using h]
    rfl
  · rw [show ptr s a d = true by simpa using h]
    rfl
theorem c101u (R : R32 s (m.1 10)) (I : vI s) {t h : Nat} {v1 v2 : Int32} (h1 : v1 = Int32.ofNat t) (h2 : v2 = Int32.ofNat h) (ht : (t : Int) < (s 2).toInt) (hh : h < 6) : D101_9 F v1 v2 m = some (pB (pcl s t h), m) := by
  have t6 : t < 6 := by have := I_nt I; omega
  have it := I.2.1 t ht
  have n6 := I_n6 I
  have eh : s (10 + 6 * t + 3) = Int32.ofNat (s (10 + 6 * t + 3)).toInt.toNat := i32n (by omega)
  subst h2
  unfold D101_9 D101_9_28
  refine ob (c87_9 R h1 (w := 0) rfl t6 (by decide)) (oi (p := Int32.ofNat h == s (10 + 6 * t)) zce (fun a => ?_) (fun a => ?_))
  · have a : Int32.ofNat h = s (10 + 6 * t) := by simpa using a
    rw [show pcl s t h = false by unfold pcl; rw [← a]; simp]
    rfl
  have a : ¬ Int32.ofNat h = s (10 + 6 * t) := by simpa using a
  have a2 : (s (10 + 6 * t) == Int32.ofNat h) = false := by
    simp only [beq_eq_false_iff_ne]
    exact fun z => a z.symm
  refine ob (c87_9 R h1 (w := 3) rfl t6 (by decide)) (ob (c92u R (a := (s (10 + 6 * t + 3)).toInt.toNat) eh rfl (by omega) hh) (oi (p := !ptr s (s (10 + 6 * t + 3)).toInt.toNat h) pB1 (fun b => ?_) (fun b => ?_)))
  · have b : ptr s (s (10 + 6 * t + 3)).toInt.toNat h = false := by simpa using b
    rw [show pcl s t h = false by unfold pcl; rw [b]; simp]
    rfl
  · have b : ptr s (s (10 + 6 * t + 3)).toInt.toNat h = true := by simpa using b
    have ne : (s (10 + 6 * t + 3) == Int32.ofNat h) = false := by
      simp only [beq_eq_false_iff_ne]
      intro z
      have dg := (I.2.2.2.1 h hh).1
      rw [z, nJ (by omega), Int.toNat_natCast] at b
      unfold ptr at b
      rw [dg] at b
      exact absurd b (by decide)
    rw [show pcl s t h = true by unfold pcl; rw [b, ne, a2]; rfl]
    rfl
theorem c114_6 (R : R32 s (m.1 10)) (I : vI s) {t h x : Nat} {v4 : Int32} {g : Bool} (hg : zcmp .eq v4 0 = !g) (ht : (t : Int) < (s 2).toInt) (hx : x < 4) : ∀ (f : Nat) {k : Nat} {v : Int32}, (k : Int) ≤ (s 3).toInt → 7 - k < f → D114_9_6 F f (Int32.ofNat t) (Int32.ofNat h) (Int32.ofNat x) v4 v (Int32.ofNat k) m = some (wnt s t h x g k ((s 3).toInt.toNat - k) v, m) := by
  have n6 := I_nw I
  have t6 : t < 6 := by have := I_nt I; omega
  intro f
  induction f with
  | zero => intro k v _ l; omega
  | succ f ih =>
    intro k v hk l
    have ek := nJ (n := k) (by omega)
    unfold D114_9_6
    refine ob (c80_9 R) (oi (p := decide ((s 3).toInt ≤ (Int32.ofNat k).toInt)) zc (fun q => ?_) (fun q => ?_))
    · have q := of_decide_eq_true q
      rw [show (s 3).toInt.toNat - k = 0 by omega]
      rfl
    · have q := of_decide_eq_false q
      have k6 : k < 6 := by omega
      have kw : (k : Int) < (s 3).toInt := by omega
      rw [show (s 3).toInt.toNat - k = ((s 3).toInt.toNat - (k + 1)) + 1 by omega]
      have nx : Int32.ofNat k + Int32.ofInt 1 = Int32.ofNat (k + 1) := xadd (a := k) (b := 1) (by omega)
      have skip : ∀ {v' : Int32}, D114_9_84 F (D114_9_6 F f) (Int32.ofNat t) (Int32.ofNat h) (Int32.ofNat x) v4 v' (Int32.ofNat k) m = some (wnt s t h x g (k + 1) ((s 3).toInt.toNat - (k + 1)) v', m) := fun {v'} => by
        unfold D114_9_84
        rw [nx]
        exact ih (by omega) (by omega)
      show _ = some (wnt s t h x g (k + 1) ((s 3).toInt.toNat - (k + 1)) (if wsel s t h k = true then _ else v), m)
      refine ob (c89_9 R (w := k) (k := 0) rfl rfl k6 (by decide)) (oi (p := !(s (124 + 4 * k + 0) == Int32.ofNat h)) zcn (fun a => ?_) (fun a => ?_))
      · have a : (s (124 + 4 * k) == Int32.ofNat h) = false := by simpa using a
        rw [show wsel s t h k = false by unfold wsel; rw [a, Bool.false_and], if_neg (by decide)]
        exact skip
      have a : (s (124 + 4 * k) == Int32.ofNat h) = true := by simpa using a
      have ln := (I.2.2.1 k kw).2
      refine ob (c89d_9 R (w := k) rfl k6 kw) (oi (p := pdn s k) ((zcni (y := -1) rfl).trans ?_) (fun b => ?_) (fun b => ?_))
      · unfold pdn
        by_cases z : (s (118 + k)).toInt = -1
        · rw [decide_eq_true z, decide_eq_false (by omega)]
          rfl
        · rw [decide_eq_false z, decide_eq_true (by omega)]
          rfl
      · rw [show wsel s t h k = false by unfold wsel; rw [b]; simp, if_neg (by decide)]
        exact skip
      refine ob (c89_9 R (w := k) (k := 1) rfl rfl k6 (by decide)) (ob (c87_9 R (t := t) (w := 1) rfl rfl t6 (by decide)) (oi (p := !(s (124 + 4 * k + 1) == s (10 + 6 * t + 1))) zcn (fun c => ?_) (fun c => ?_)))
      · have c : (s (124 + 4 * k + 1) == s (10 + 6 * t + 1)) = false := by simpa using c
        rw [show wsel s t h k = false by unfold wsel; rw [c]; simp, if_neg (by decide)]
        exact skip
      have c : (s (124 + 4 * k + 1) == s (10 + 6 * t + 1)) = true := by simpa using c
      rw [show wsel s t h k = true by unfold wsel; rw [a, b, c]; rfl, if_pos rfl]
      refine ob (c89_9 R (w := k) (k := x) rfl rfl k6 hx) (oi (p := !g) hg (fun e => ?_) (fun e => ?_))
      · rw [show g = false by simpa using e, if_neg (by decide)]
        unfold D114_9_82
        rw [show g = false by simpa using e] at skip
        exact skip
      · rw [show g = true by simpa using e, if_pos rfl]
        unfold D114_9_82
        rw [show g = true by simpa using e] at skip
        exact skip
theorem c114 (hF : 500 ≤ F) (R : R32 s (m.1 10)) (I : vI s) {t h x : Nat} {v4 : Int32} {g : Bool} (hg : zcmp .eq v4 0 = !g) (ht : (t : Int) < (s 2).toInt) (hx : x < 4) : D114_9 F (Int32.ofNat t) (Int32.ofNat h) (Int32.ofNat x) v4 m = some (wnt s t h x g 0 (s 3).toInt.toNat 0, m) := by
  have n6 := I_nw I
  have z := c114_6 (F := F) R I hg ht hx F (h := h) (k := 0) (v := 0) (by omega) (by omega)
  rw [Nat.sub_zero] at z
  unfold D114_9
  exact z
theorem c31 (hF : 500 ≤ F) (R : R32 s (m.1 10)) (I : vI s) {t h i : Nat} (ht : (t : Int) < (s 2).toInt) (hh : h < 6) (hi : i < 20) : D31_9 F (Int32.ofNat i) (Int32.ofNat t) (Int32.ofNat h) m = some (wrd s t h i, m) := by
  have t6 : t < 6 := by have := I_nt I; omega
  have it := I.2.1 t ht
  have n6 := I_n6 I
  have eh : s (10 + 6 * t + 3) = Int32.ofNat (s (10 + 6 * t + 3)).toInt.toNat := i32n (by omega)
  have lh : (s (10 + 6 * t + 3)).toInt.toNat < 6 := by omega
  have k : ∀ {w : Nat}, w < 6 → D87_9 F (Int32.ofNat t) (Int32.ofNat w) m = some (s (10 + 6 * t + w), m) := fun hw => c87_9 R rfl rfl t6 hw
  have tr : ((D92_9 F (Int32.ofNat h) (s (10 + 6 * t + 3)) m).bind fun q149 => if zcmp .eq q149.1 0 = true then some ((0 : Int32), q149.2) else some (1, q149.2)) = some ((if ptr s h (s (10 + 6 * t + 3)).toInt.toNat = true then (1 : Int32) else 0), m) := ob (c92u R rfl eh hh lh) (oi (p := !ptr s h (s (10 + 6 * t + 3)).toInt.toNat) pB1 (fun z => by
    rw [if_neg (by simpa using z)]) (fun z => by
    rw [if_pos (by simpa using z)]))
  unfold D31_9
  refine ob (k (w := 3) (by decide)) ?_
  match i, hi with
  | 0, _ => exact oT (by decide) (rfl)
  | 1, _ => exact oF (by decide) (oT (by decide) (ob (k (w := 1) (by decide)) rfl))
  | 2, _ => exact oF (by decide) (oF (by decide) (oT (by decide) (ob (k (w := 0) (by decide)) rfl)))
  | 3, _ => exact oF (by decide) (oF (by decide) (oF (by decide) (oT (by decide) (rfl))))
  | 4, _ => exact oF (by decide) (oF (by decide) (oF (by decide) (oF (by decide) (oT (by decide) (rfl)))))
  | 5, _ => exact oF (by decide) (oF (by decide) (oF (by decide) (oF (by decide) (oF (by decide) (oT (by decide) (ob (k (w := 4) (by decide)) rfl))))))
  | 6, _ => exact oF (by decide) (oF (by decide) (oF (by decide) (oF (by decide) (oF (by decide) (oF (by decide) (oT (by decide) (ob (c100_9 R I rfl ht) rfl)))))))
  | 7, _ => exact oF (by decide) (oF (by decide) (oF (by decide) (oF (by decide) (oF (by decide) (oF (by decide) (oF (by decide) (oT (by decide) (ob (k (w := 5) (by decide)) rfl))))))))
  | 8, _ => exact oF (by decide) (oF (by decide) (oF (by decide) (oF (by decide) (oF (by decide) (oF (by decide) (oF (by decide) (oF (by decide) (oT (by decide) (ob (c81_9 R) rfl)))))))))
  | 9, _ => exact oF (by decide) (oF (by decide) (oF (by decide) (oF (by decide) (oF (by decide) (oF (by decide) (oF (by decide) (oF (by decide) (oF (by decide) (oT (by decide) (ob (c114 hF R I (x := 2) (g := true) (by decide) ht (by decide)) rfl))))))))))
  | 10, _ => exact oF (by decide) (oF (by decide) (oF (by decide) (oF (by decide) (oF (by decide) (oF (by decide) (oF (by decide) (oF (by decide) (oF (by decide) (oF (by decide) (oT (by decide) (ob (c114 hF R I (x := 3) (g := false) (by decide) ht (by decide)) rfl)))))))))))
  | 11, _ => exact oF (by decide) (oF (by decide) (oF (by decide) (oF (by decide) (oF (by decide) (oF (by decide) (oF (by decide) (oF (by decide) (oF (by decide) (oF (by decide) (oF (by decide) (oT (by decide) (ob (c94_9 R rfl eh hh lh) rfl))))))))))))
  | 12, _ => exact oF (by decide) (oF (by decide) (oF (by decide) (oF (by decide) (oF (by decide) (oF (by decide) (oF (by decide) (oF (by decide) (oF (by decide) (oF (by decide) (oF (by decide) (oF (by decide) (tr))))))))))))
  | 13, _ => exact oF (by decide) (oF (by decide) (oF (by decide) (oF (by decide) (oF (by decide) (oF (by decide) (oF (by decide) (oF (by decide) (oF (by decide) (oF (by decide) (oF (by decide) (oF (by decide) (tr))))))))))))
  | 14, _ => exact oF (by decide) (oF (by decide) (oF (by decide) (oF (by decide) (oF (by decide) (oF (by decide) (oF (by decide) (oF (by decide) (oF (by decide) (oF (by decide) (oF (by decide) (oF (by decide) (tr))))))))))))
  | 15, _ => exact oF (by decide) (oF (by decide) (oF (by decide) (oF (by decide) (oF (by decide) (oF (by decide) (oF (by decide) (oF (by decide) (oF (by decide) (oF (by decide) (oF (by decide) (oF (by decide) (tr))))))))))))
  | 16, _ => exact oF (by decide) (oF (by decide) (oF (by decide) (oF (by decide) (oF (by decide) (oF (by decide) (oF (by decide) (oF (by decide) (oF (by decide) (oF (by decide) (oF (by decide) (oF (by decide) (tr))))))))))))
  | 17, _ => exact oF (by decide) (oF (by decide) (oF (by decide) (oF (by decide) (oF (by decide) (oF (by decide) (oF (by decide) (oF (by decide) (oF (by decide) (oF (by decide) (oF (by decide) (oF (by decide) (tr))))))))))))
  | 18, _ => exact oF (by decide) (oF (by decide) (oF (by decide) (oF (by decide) (oF (by decide) (oF (by decide) (oF (by decide) (oF (by decide) (oF (by decide) (oF (by decide) (oF (by decide) (oF (by decide) (tr))))))))))))
  | 19, _ => exact oF (by decide) (oF (by decide) (oF (by decide) (oF (by decide) (oF (by decide) (oF (by decide) (oF (by decide) (oF (by decide) (oF (by decide) (oF (by decide) (oF (by decide) (oF (by decide) (tr))))))))))))
  | i + 20, z => omega
theorem c29h {c : Bool} {p : Prop} [Decidable p] (hc : c = !decide p) : ((if c = true then some ((0 : Int32), m) else some (1, m)).bind fun q => if zcmp .eq q.1 0 = true then some ((0 : Int64), q.2) else some (1, q.2)) = some ((if p then 1 else 0), m) := by
  subst hc
  by_cases h : p
  · rw [decide_eq_true h, if_pos h]
    rfl
  · rw [decide_eq_false h, if_neg h]
    rfl
theorem ngt {a b : Int} : decide (b ≤ a) = !decide (a < b) := by
  by_cases h : b ≤ a
  · rw [decide_eq_true h, decide_eq_false (by omega)]
    rfl
  · rw [decide_eq_false h, decide_eq_true (by omega)]
    rfl
theorem ngt2 {a b : Int} : decide (b < a) = !decide (a ≤ b) := by
  by_cases h : b < a
  · rw [decide_eq_true h, decide_eq_false (by omega)]
    rfl
  · rw [decide_eq_false h, decide_eq_true (by omega)]
    rfl
theorem c29 {k : Int32} {x y : Int64} {z : Int} (hk : k.toInt = z) (h1 : 1 ≤ z) (h2 : z ≤ 13) (h3 : z ≠ 3) : D29 F k x y m = some (sop z x y, m) := by
  obtain ⟨g1, g2, g3, g4, g5⟩ := lgS x y
  have n0 : ∀ z : Int64, ¬ z = 0 → (!(z == 0)) = true := fun z h => by simp [h]
  have hz : z = 1 ∨ z = 2 ∨ z = 4 ∨ z = 5 ∨ z = 6 ∨ z = 7 ∨ z = 8 ∨ z = 9 ∨ z = 10 ∨ z = 11 ∨ z = 12 ∨ z = 13 := by omega
  rcases hz with rfl | rfl | rfl | rfl | rfl | rfl | rfl | rfl | rfl | rfl | rfl | rfl
  · obtain rfl : k = 1 := Int32.toInt_inj.mp (hk.trans rfl)
    unfold D29
    exact oT (by decide) rfl
  · obtain rfl : k = 2 := Int32.toInt_inj.mp (hk.trans rfl)
    unfold D29
    exact oF (by decide) (oT (by decide) rfl)
  · obtain rfl : k = 4 := Int32.toInt_inj.mp (hk.trans rfl)
    unfold D29
    have z : D30 F 4 x y m = (if zcmp .ge (lg_cmp x y) 0 = true then some (0, m) else some (1, m)) := by
      unfold D30
      exact oT (by decide) rfl
    exact oF (by decide) (oF (by decide) (oF (by decide) (oT (by decide) (by rw [z]; exact c29h (g1.trans ngt)))))
  · obtain rfl : k = 5 := Int32.toInt_inj.mp (hk.trans rfl)
    unfold D29
    have z : D30 F 5 x y m = (if zcmp .gt (lg_cmp x y) 0 = true then some (0, m) else some (1, m)) := by
      unfold D30
      exact oF (by decide) (oT (by decide) rfl)
    exact oF (by decide) (oF (by decide) (oF (by decide) (oF (by decide) (oT (by decide) (by rw [z]; exact c29h (g2.trans ngt2))))))
  · obtain rfl : k = 6 := Int32.toInt_inj.mp (hk.trans rfl)
    unfold D29
    have z : D30 F 6 x y m = (if zcmp .ne (lg_cmp x y) 0 = true then some (0, m) else some (1, m)) := by
      unfold D30
      exact oF (by decide) (oF (by decide) (oT (by decide) rfl))
    exact oF (by decide) (oF (by decide) (oF (by decide) (oF (by decide) (oF (by decide) (oT (by decide) (by rw [z]; exact c29h (g3)))))))
  · obtain rfl : k = 7 := Int32.toInt_inj.mp (hk.trans rfl)
    unfold D29
    have z : D30 F 7 x y m = (if zcmp .lt (lg_cmp x y) 0 = true then some (0, m) else some (1, m)) := by
      unfold D30
      exact oF (by decide) (oF (by decide) (oF (by decide) (oT (by decide) rfl)))
    exact oF (by decide) (oF (by decide) (oF (by decide) (oF (by decide) (oF (by decide) (oF (by decide) (oT (by decide) (by rw [z]; exact c29h (g4.trans ngt2))))))))
  · obtain rfl : k = 8 := Int32.toInt_inj.mp (hk.trans rfl)
    unfold D29
    have z : D30 F 8 x y m = (if zcmp .le (lg_cmp x y) 0 = true then some (0, m) else some (1, m)) := by
      unfold D30
      exact oF (by decide) (oF (by decide) (oF (by decide) (oF (by decide) (rfl))))
    exact oF (by decide) (oF (by decide) (oF (by decide) (oF (by decide) (oF (by decide) (oF (by decide) (oF (by decide) (oT (by decide) (by rw [z]; exact c29h (g5.trans ngt)))))))))
  · obtain rfl : k = 9 := Int32.toInt_inj.mp (hk.trans rfl)
    unfold D29
    exact oF (by decide) (oF (by decide) (oF (by decide) (oF (by decide) (oF (by decide) (oF (by decide) (oF (by decide) (oF (by decide) (oT (by decide) rfl))))))))
  · obtain rfl : k = 10 := Int32.toInt_inj.mp (hk.trans rfl)
    unfold D29
    exact oF (by decide) (oF (by decide) (oF (by decide) (oF (by decide) (oF (by decide) (oF (by decide) (oF (by decide) (oF (by decide) (oF (by decide) (oT (by decide) rfl)))))))))
  · obtain rfl : k = 11 := Int32.toInt_inj.mp (hk.trans rfl)
    unfold D29
    exact oF (by decide) (oF (by decide) (oF (by decide) (oF (by decide) (oF (by decide) (oF (by decide) (oF (by decide) (oF (by decide) (oF (by decide) (oF (by decide) (oT (by decide) rfl))))))))))
  · obtain rfl : k = 12 := Int32.toInt_inj.mp (hk.trans rfl)
    show D29 F 12 x y m = some ((if y = 0 then 0 else x / y), m)
    unfold D29
    exact oF (by decide) (oF (by decide) (oF (by decide) (oF (by decide) (oF (by decide) (oF (by decide) (oF (by decide) (oF (by decide) (oF (by decide) (oF (by decide) (oF (by decide) (oT (by decide) (obd (lg0 y) (fun h => by rw [if_pos (n0 y h)]) (fun _ => rfl)))))))))))))
  · obtain rfl : k = 13 := Int32.toInt_inj.mp (hk.trans rfl)
    show D29 F 13 x y m = some ((if y = 0 then 0 else x - x / y * y), m)
    unfold D29
    exact oF (by decide) (oF (by decide) (oF (by decide) (oF (by decide) (oF (by decide) (oF (by decide) (oF (by decide) (oF (by decide) (oF (by decide) (oF (by decide) (oF (by decide) (oF (by decide) (oT (by decide) (obd (lg0 y) (fun h => by rw [if_pos (n0 y h)]) (fun _ => rfl))))))))))))))
/-- where the class's run over steps goes well -/
def cgd (w : Nat → Int64) : List Int → List Int64 → Prop
  | [], _ => True
  | s :: r, st => if s = 14 then 1 ≤ st.length else if s = 15 then (2 ≤ st.length ∧ (st.reverse.getD 1 0 = 0 → cgd w r [])) else ((1 ≤ s ∧ s ≤ 13) ∨ 20 ≤ s) ∧ (20 ≤ s → st.length < 64) ∧ ∃ st', sst w s st = some st' ∧ cgd w r st'
theorem tyS_rng {s : Int} {L L' : List Bool} (t : tyS s L = some L') : (1 ≤ s ∧ s ≤ 13) ∨ 20 ≤ s := by
  unfold tyS at t
  by_cases a : 20 ≤ s
  · exact Or.inr a
  rw [if_neg a] at t
  by_cases b : s = 3
  · omega
  rw [if_neg b] at t
  by_cases c : s = 1 ∨ s = 2
  · omega
  rw [if_neg c] at t
  by_cases d : 4 ≤ s ∧ s ≤ 8
  · omega
  rw [if_neg d] at t
  by_cases e : 9 ≤ s ∧ s ≤ 13
  · omega
  rw [if_neg e] at t
  cases t
theorem tyR_len : ∀ {out : List Int} {L L' : List Bool}, tyR out L = some L' → L'.length ≤ L.length + cnt out
  | [], L, L', t => by
    have t : L = L' := Option.some.inj t
    rw [t]
    exact Nat.le_refl _
  | s :: out, L, L', t => by
    have t : (tyR out L).bind (tyS s) = some L' := t
    obtain ⟨L1, t1, t2⟩ := Option.bind_eq_some_iff.mp t
    have a := tyR_len t1
    have b := tyS_len t2
    show L'.length ≤ L.length + ((if 20 ≤ s then 1 else 0) + cnt out)
    omega
theorem cgd_run {w : Nat → Int64} : ∀ {out rest : List Int} {L L' : List Bool} {st b : List Int64}, tyR out L = some L' → tyV L st → L.length + b.length + cnt out ≤ 64 → (∀ st', srun w out st = some st' → cgd w rest (st' ++ b)) → cgd w (out.reverse ++ rest) (st ++ b)
  | [], rest, L, L', st, b, _, _, _, h => h st rfl
  | s :: out, rest, L, L', st, b, t, v, l, h => by
    have no := tyR_no t s (List.mem_cons_self ..)
    have t : (tyR out L).bind (tyS s) = some L' := t
    obtain ⟨L1, t1, t2⟩ := Option.bind_eq_some_iff.mp t
    have l : L.length + b.length + ((if 20 ≤ s then 1 else 0) + cnt out) ≤ 64 := l
    have l1 := tyR_len t1
    rw [List.reverse_cons, List.append_assoc]
    refine cgd_run t1 v (by omega) (fun st1 h1 => ?_)
    obtain ⟨st0, e0, v1⟩ := srun_ty (w := w) t1 v
    rw [h1] at e0
    have e0 := Option.some.inj e0
    subst e0
    obtain ⟨st2, e2, v2⟩ := sst_ty (w := w) t2 v1
    show (if s = 14 then _ else if s = 15 then _ else _)
    rw [if_neg no.1, if_neg no.2]
    have lv := tyV_l v1
    refine ⟨tyS_rng t2, fun h20 => ?_, st2 ++ b, sst_fr e2, h st2 ?_⟩
    · rw [if_pos h20] at l
      rw [List.length_append, lv]
      omega
    · show (srun w out st).bind (sst w s) = some st2
      rw [h1]
      exact e2
theorem cgd_out {w : Nat → Int64} : ∀ {Q : List (List Int × Option (List Int))} {rest : List Int}, (∀ q ∈ Q, tyC q) → cnt (outOf Q) ≤ 60 → cgd w rest [] → cgd w ((outOf Q).reverse ++ rest) []
  | [], rest, _, _, h => h
  | (cs, none) :: Q, rest, hQ, hc, h => by
    have hq := hQ _ (List.mem_cons_self ..)
    have t1 : tyR cs [] = some [false] := hq.1
    have hc : cnt (14 :: (cs ++ outOf Q)) ≤ 60 := hc
    rw [cnt_c (by decide), cnt_app] at hc
    show cgd w ((14 :: (cs ++ outOf Q)).reverse ++ rest) []
    rw [List.reverse_cons, List.reverse_append, List.append_assoc, List.append_assoc]
    refine cgd_out (fun x hx => hQ x (List.mem_cons_of_mem _ hx)) (by omega) ?_
    have z := cgd_run (w := w) (rest := [14] ++ rest) (st := []) (b := []) t1 trivial (by show 0 + 0 + cnt cs ≤ 64; omega) (fun st' e => ?_)
    · exact z
    · rw [sv_one (w := w) t1] at e
      have e := Option.some.inj e
      subst e
      show (if (14 : Int) = 14 then _ else _)
      rw [if_pos rfl]
      exact Nat.le_refl _
  | (cs, some ct) :: Q, rest, hQ, hc, h => by
    have hq := hQ _ (List.mem_cons_self ..)
    have t1 : tyR cs [] = some [false] := hq.1
    have t2 : tyR ct [] = some [true] := hq.2
    have hc : cnt (15 :: (ct ++ (cs ++ outOf Q))) ≤ 60 := hc
    rw [cnt_c (by decide), cnt_app, cnt_app] at hc
    show cgd w ((15 :: (ct ++ (cs ++ outOf Q))).reverse ++ rest) []
    rw [List.reverse_cons, List.reverse_append, List.reverse_append, List.append_assoc, List.append_assoc, List.append_assoc]
    refine cgd_out (fun x hx => hQ x (List.mem_cons_of_mem _ hx)) (by omega) ?_
    have z := cgd_run (w := w) (rest := ct.reverse ++ ([15] ++ rest)) (st := []) (b := []) t1 trivial (by show 0 + 0 + cnt cs ≤ 64; omega) (fun st' e => ?_)
    · exact z
    · rw [sv_one (w := w) t1] at e
      have e := Option.some.inj e
      subst e
      have z2 := cgd_run (w := w) (rest := [15] ++ rest) (st := []) (b := [sv w cs]) t2 trivial (by show 0 + 1 + cnt ct ≤ 64; omega) (fun st' e => ?_)
      · exact z2
      · rw [sv_one (w := w) t2] at e
        have e := Option.some.inj e
        subst e
        show (if (15 : Int) = 14 then _ else if (15 : Int) = 15 then _ else _)
        rw [if_neg (by decide), if_pos rfl]
        exact ⟨Nat.le_refl _, fun _ => h⟩
/-- a stack in a row of longs -/
def sC (m : xS) (c : Nat) (st : List Int64) : Prop := ∀ (j : Nat) (x : Int64), st.reverse[j]? = some x → m.2 c j = x
theorem sC_up {c : Nat} {st : List Int64} {v : Int64} (h : sC m c st) : sC (xul m c st.length v) c (v :: st) := fun j x hx => by
  rw [List.reverse_cons] at hx
  by_cases z : j < st.length
  · rw [List.getElem?_append_left (by rw [List.length_reverse]; exact z)] at hx
    exact (if_neg (fun y => by omega)).trans (h j x hx)
  · by_cases z2 : j = st.length
    · subst z2
      rw [List.getElem?_append_right (by rw [List.length_reverse]; exact Nat.le_refl _), List.length_reverse, Nat.sub_self] at hx
      have hx : v = x := Option.some.inj hx
      exact (if_pos ⟨rfl, rfl⟩).trans hx
    · rw [List.getElem?_eq_none (by rw [List.length_append, List.length_reverse]; show st.length + 1 ≤ j; omega)] at hx
      cases hx
theorem sC_tl {c : Nat} {st : List Int64} {v : Int64} (h : sC m c (v :: st)) : sC m c st ∧ m.2 c st.length = v := by
  constructor
  · intro j x hx
    refine h j x ?_
    rw [List.reverse_cons, List.getElem?_append_left (List.getElem?_eq_some_iff.mp hx).1]
    exact hx
  · refine h st.length v ?_
    rw [List.reverse_cons, List.getElem?_append_right (by rw [List.length_reverse]; exact Nat.le_refl _), List.length_reverse, Nat.sub_self]
    rfl
theorem sC_g {c j : Nat} {st : List Int64} (h : sC m c st) (l : j < st.length) : m.2 c j = st.reverse.getD j 0 := by
  have e : st.reverse[j]? = some (st.reverse[j]'(by rw [List.length_reverse]; exact l)) := List.getElem?_eq_getElem _
  rw [List.getD_eq_getElem?_getD, e]
  exact h j _ e
theorem o1 {n : Nat} (h : n < 2000) : Int32.ofNat (n + 1) + Int32.ofInt (-1) = Int32.ofNat n ∧ Int32.ofNat (n + 1) - 1 = Int32.ofNat n ∧ Int32.ofNat n + Int32.ofInt 1 = Int32.ofNat (n + 1) := by
  refine ⟨?_, xsub (a := n + 1) (b := 1) (by omega) (by omega), xadd (a := n) (b := 1) (by omega)⟩
  apply Int32.toInt_inj.mp
  have e1 : (Int32.ofInt (-1)).toInt = -1 := rfl
  exact (xa1 (by rw [xI (by omega), e1]; omega) (by rw [xI (by omega), e1]; omega)).trans (by rw [xI (by omega), e1, xI (by omega)]; omega)
/-- sumFor: its loop -/
theorem c28_6 (hF : 500 ≤ F) {r0 nn : Nat} (hn : nn ≤ 400) (I : vI s) {t h : Nat} (ht : (t : Int) < (s 2).toInt) (hh : h < 6) : ∀ (f : Nat) {m : xS} {p : Nat} {xs : List Int} {st : List Int64}, R32 s (m.1 10) → p + xs.length = nn → xs.length < f → (∀ (j : Nat) (x : Int), xs[j]? = some x → (m.1 (r0 + 1) (p + j)).toInt = x) → sC m (r0 + 2) st → st.length ≤ 64 → cgd (wrl s t h) xs st → ∃ M : Nat → Nat → Int64, D28_R_9_6 F r0 nn f (Int32.ofNat t) (Int32.ofNat h) (Int32.ofNat st.length) (Int32.ofNat p) m = some (csum (wrl s t h) xs st, (m.1, M)) ∧ ∀ i j, i ≠ r0 + 2 → M i j = m.2 i j := by
  intro f
  induction f with
  | zero => intro m p xs st _ _ l; omega
  | succ f ih =>
    intro m p xs st R hp lf hx hs h64 hg
    have ep := nJ (n := p) (by omega)
    have en := nJ (n := nn) (by omega)
    unfold D28_R_9_6
    cases xs with
    | nil =>
      have hp : p = nn := hp
      exact ⟨m.2, oT (zc.trans (decide_eq_true (by omega))) rfl, fun _ _ _ => rfl⟩
    | cons x xs =>
      rw [List.length_cons] at hp lf
      have X := hx 0 x rfl
      rw [Nat.add_zero] at X
      have hx' : ∀ (j : Nat) (y : Int), xs[j]? = some y → (m.1 (r0 + 1) (p + 1 + j)).toInt = y := fun j y hj => by
        rw [show p + 1 + j = p + (j + 1) by omega]
        exact hx (j + 1) y hj
      have gi : (Int32.ofNat p).toNatClampNeg = p := gxn ep
      rw [gi]
      generalize hXX : m.1 (r0 + 1) p = Y at X
      have c0 : zcmp .ge (Int32.ofNat p) (Int32.ofNat nn) = false := zc.trans (decide_eq_false (by omega))
      have c1 : xib (Int32.ofNat p) nn = true := gxb ep (by omega)
      have nx : ∀ {m1 : xS} {st1 : List Int64} {v6 : Int32}, m1.1 = m.1 → (∀ i j, i ≠ r0 + 2 → m1.2 i j = m.2 i j) → sC m1 (r0 + 2) st1 → st1.length ≤ 64 → cgd (wrl s t h) xs st1 → csum (wrl s t h) xs st1 = csum (wrl s t h) (x :: xs) st → ∃ M : Nat → Nat → Int64, D28_R_9_198 F r0 nn (D28_R_9_6 F r0 nn f) (Int32.ofNat t) (Int32.ofNat h) (Int32.ofNat st1.length) (Int32.ofNat p) v6 m1 = some (csum (wrl s t h) (x :: xs) st, (m.1, M)) ∧ ∀ i j, i ≠ r0 + 2 → M i j = m.2 i j := fun {m1 st1 v6} e1 e2 e3 e4 e5 e6 => by
        obtain ⟨M, d1, d2⟩ := ih (m := m1) (p := p + 1) (xs := xs) (st := st1) (by rw [e1]; exact R) (by omega) (by omega) (by rw [e1]; exact hx') e3 e4 e5
        unfold D28_R_9_198
        rw [(o1 (n := p) (by omega)).2.2]
        exact ⟨M, by rw [d1, e6, e1], fun i j z => (d2 i j z).trans (e2 i j z)⟩
      have l0 : (20 : Int32).toInt = 20 := rfl
      have l40 : (40 : Int32).toInt = 40 := rfl
      have hg : if x = 14 then 1 ≤ st.length else if x = 15 then (2 ≤ st.length ∧ (st.reverse.getD 1 0 = 0 → cgd (wrl s t h) xs [])) else ((1 ≤ x ∧ x ≤ 13) ∨ 20 ≤ x) ∧ (20 ≤ x → st.length < 64) ∧ ∃ st', sst (wrl s t h) x st = some st' ∧ cgd (wrl s t h) xs st' := hg
      have hcs : csum (wrl s t h) (x :: xs) st = if x = 14 then st.reverse.getD 0 0 else if x = 15 then (if st.reverse.getD 1 0 ≠ 0 then st.reverse.getD 0 0 else csum (wrl s t h) xs []) else match sst (wrl s t h) x st with
        | some st' => csum (wrl s t h) xs st'
        | none => csum (wrl s t h) xs st := rfl
      by_cases k14 : x = 14
      · rw [if_pos k14] at hg hcs
        refine ⟨m.2, oF c0 (oT c1 (oT (zcl.trans (decide_eq_true (by omega))) (oF ((zcni (y := 14) rfl).trans (by rw [decide_eq_true (by omega)]; rfl)) ?_))), fun _ _ _ => rfl⟩
        rw [hcs, ← sC_g hs hg]
      rw [if_neg k14] at hg hcs
      by_cases k15 : x = 15
      · rw [if_pos k15] at hg hcs
        have g1 := sC_g hs (show 1 < st.length by omega)
        have g0 := sC_g hs (show 0 < st.length by omega)
        have two : ∀ {r : Option (Int64 × xS)} {a : Option (Int64 × xS)}, (st.reverse.getD 1 0 = 0 → a = r) → (¬ st.reverse.getD 1 0 = 0 → some ((m.2 (r0 + 2) 0), m) = r) → (if zcmp .eq (lg_cmp (m.2 (r0 + 2) 1) 0) 0 = true then a else some ((m.2 (r0 + 2) 0), m)) = r := fun {r a} h1 h2 => by
          rw [g1]
          have z := lg0 (st.reverse.getD 1 0)
          have z2 : zcmp .eq (lg_cmp (st.reverse.getD 1 0) 0) 0 = decide (st.reverse.getD 1 0 = 0) := by
            rw [zce]
            rw [zcn] at z
            have z := congrArg Bool.not z
            rw [Bool.not_not, Bool.not_not] at z
            exact z
          rw [z2]
          by_cases y : st.reverse.getD 1 0 = 0
          · rw [decide_eq_true y, if_pos rfl]
            exact h1 y
          · rw [decide_eq_false y, if_neg (by decide)]
            exact h2 y
        by_cases y : st.reverse.getD 1 0 = 0
        · rw [if_neg (fun z => z y)] at hcs
          obtain ⟨M, d1, d2⟩ := nx (m1 := m) (st1 := []) (v6 := Y) rfl (fun _ _ _ => rfl) (fun j x hx => by cases hx) (by decide) (hg.2 y) hcs.symm
          exact ⟨M, oF c0 (oT c1 (oT (zcl.trans (decide_eq_true (by omega))) (oT ((zcni (y := 14) rfl).trans (by rw [decide_eq_false (by omega)]; rfl)) (oF ((zcni (y := 15) rfl).trans (by rw [decide_eq_true (by omega)]; rfl)) (two (fun _ => d1) (fun z => absurd y z)))))), d2⟩
        · rw [if_pos y] at hcs
          refine ⟨m.2, oF c0 (oT c1 (oT (zcl.trans (decide_eq_true (by omega))) (oT ((zcni (y := 14) rfl).trans (by rw [decide_eq_false (by omega)]; rfl)) (oF ((zcni (y := 15) rfl).trans (by rw [decide_eq_true (by omega)]; rfl)) (two (fun z => absurd z y) (fun _ => ?_)))))), fun _ _ _ => rfl⟩
          rw [hcs, g0]
      rw [if_neg k15] at hg hcs
      obtain ⟨hr, h20, st', e1, e2⟩ := hg
      rw [e1] at hcs
      have hcs : csum (wrl s t h) xs st' = csum (wrl s t h) (x :: xs) st := hcs.symm
      unfold sst at e1
      by_cases k20 : 20 ≤ x
      · -- a value
        have l64 := h20 k20
        have push : ∀ {v : Int64} {v6 : Int32}, st' = v :: st → ∃ M : Nat → Nat → Int64, D28_R_9_73 F r0 nn (D28_R_9_6 F r0 nn f) (Int32.ofNat t) (Int32.ofNat h) (Int32.ofNat st.length) (Int32.ofNat p) v6 v (Int32.ofNat st.length) m = some (csum (wrl s t h) (x :: xs) st, (m.1, M)) ∧ ∀ i j, i ≠ r0 + 2 → M i j = m.2 i j := fun {v v6} ev => by
          subst ev
          have el := nJ (n := st.length) (by omega)
          unfold D28_R_9_73
          rw [gxn el, (o1 (n := st.length) (by omega)).2.2, if_pos (gxb el l64)]
          exact nx (m1 := xul m (r0 + 2) st.length v) (st1 := v :: st) rfl (fun i j z => if_neg (fun y => z y.1)) (sC_up hs) (by rw [List.length_cons]; omega) e2 hcs
        have k1 : zcmp .lt Y 20 = false := zcl.trans (decide_eq_false (by omega))
        have k2 : zcmp .ge (Int32.ofNat st.length) 64 = false := zc.trans (decide_eq_false (by
          have e64 : (64 : Int32).toInt = 64 := rfl
          rw [nJ (by omega), e64]
          omega))
        by_cases k40 : 40 ≤ x
        · rw [if_pos k40] at e1
          have b := y32 Y
          have ev : (Y - 40 : Int32).toInt64 = Int64.ofInt (x - 40) := by
            apply Int64.toInt_inj.mp
            rw [Int32.toInt_toInt64, xs1 (by rw [l40]; omega) (by rw [l40]; omega), l40, X, Int64.toInt_ofInt]
            have hs : ((Int64.size : Nat) : Int) = 18446744073709551616 := rfl
            exact (Int.bmod_eq_of_le_mul_two (by omega) (by omega)).symm
          obtain ⟨M, d1, d2⟩ := push (v := (Y - 40 : Int32).toInt64) (v6 := Y) (by rw [ev]; exact (Option.some.inj e1).symm)
          exact ⟨M, oF c0 (oT c1 (oF k1 (oF k2 (oF (zcl.trans (decide_eq_false (by omega))) d1)))), d2⟩
        · rw [if_neg k40, if_pos k20] at e1
          have ei : Y - 20 = Int32.ofNat (x - 20).toNat := by
            apply Int32.toInt_inj.mp
            rw [xs1 (by rw [l0]; omega) (by rw [l0]; omega), l0, X, nJ (by omega)]
            omega
          obtain ⟨M, d1, d2⟩ := push (v := (wrd s t h (x - 20).toNat).toInt64) (v6 := Y) (Option.some.inj e1).symm
          exact ⟨M, oF c0 (oT c1 (oF k1 (oF k2 (oT (zcl.trans (decide_eq_true (by omega))) (by
            rw [ei]
            exact ob (c31 hF R I ht hh (by omega)) d1))))), d2⟩
      · rw [if_neg (by omega), if_neg k20] at e1
        have k1 : zcmp .lt Y 20 = true := zcl.trans (decide_eq_true (by omega))
        have k2 : zcmp .ne Y 14 = true := (zcni (y := 14) rfl).trans (by rw [decide_eq_false (by omega)]; rfl)
        have k3 : zcmp .ne Y 15 = true := (zcni (y := 15) rfl).trans (by rw [decide_eq_false (by omega)]; rfl)
        by_cases x3 : x = 3
        · rw [if_pos x3] at e1
          cases st with
          | nil => cases e1
          | cons v st =>
            have e1 : (1 - v) :: st = st' := Option.some.inj e1
            subst e1
            rw [List.length_cons] at h64
            obtain ⟨s1, s2⟩ := sC_tl hs
            have el := nJ (n := st.length) (by omega)
            have el1 := nJ (n := st.length + 1) (by omega)
            obtain ⟨M, d1, d2⟩ := nx (m1 := xul m (r0 + 2) st.length (1 - v)) (st1 := (1 - v) :: st) (v6 := Y) rfl (fun i j z => if_neg (fun y => z y.1)) (sC_up s1) (by rw [List.length_cons]; omega) e2 hcs
            refine ⟨M, oF c0 (oT c1 (oT k1 (oT k2 (oT k3 (oF ((zcni (y := 3) rfl).trans (by rw [decide_eq_true (by omega)]; rfl)) (oF (zcle.trans (decide_eq_false ?_)) ?_)))))), d2⟩
            · have e0 : (0 : Int32).toInt = 0 := rfl
              rw [List.length_cons, el1, e0]
              omega
            · rw [List.length_cons, (o1 (n := st.length) (by omega)).2.1, gxn el, s2, if_pos (gxb el (by omega)), if_pos (gxb el (by omega))]
              exact d1
        · rw [if_neg x3] at e1
          cases st with
          | nil => cases e1
          | cons v st =>
            cases st with
            | nil => cases e1
            | cons u st =>
              have e1 : sop x u v :: st = st' := Option.some.inj e1
              subst e1
              rw [List.length_cons, List.length_cons] at h64
              obtain ⟨s1, s2⟩ := sC_tl hs
              obtain ⟨s3, s4⟩ := sC_tl s1
              rw [List.length_cons] at s2
              have el := nJ (n := st.length) (by omega)
              have el1 := nJ (n := st.length + 1) (by omega)
              have el2 := nJ (n := st.length + 1 + 1) (by omega)
              obtain ⟨M, d1, d2⟩ := nx (m1 := xul m (r0 + 2) st.length (sop x u v)) (st1 := sop x u v :: st) (v6 := Y) rfl (fun i j z => if_neg (fun y => z y.1)) (sC_up s3) (by rw [List.length_cons]; omega) e2 hcs
              refine ⟨M, oF c0 (oT c1 (oT k1 (oT k2 (oT k3 (oT ((zcni (y := 3) rfl).trans (by rw [decide_eq_false (by omega)]; rfl)) ?_))))), d2⟩
              unfold D28_R_9_159
              refine oF (zcle.trans (decide_eq_false ?_)) ?_
              · have e0 : (1 : Int32).toInt = 1 := rfl
                rw [List.length_cons, List.length_cons, el2, e0]
                omega
              · rw [List.length_cons, List.length_cons, (o1 (n := st.length + 1) (by omega)).1, (o1 (n := st.length) (by omega)).2.1, gxn el, gxn el1, s2, s4, if_pos (gxb el (by omega)), if_pos (gxb el1 (by omega))]
                refine ob (c29 X (by omega) (by omega) x3) ?_
                rw [if_pos (gxb el (by omega))]
                exact d1
/-- sumFor -/
theorem c28 (hF : 500 ≤ F) {r0 nn : Nat} (hn : nn ≤ 400) (R : R32 s (m.1 10)) (I : vI s) {t h : Nat} (ht : (t : Int) < (s 2).toInt) (hh : h < 6) {xs : List Int} (hl : xs.length = nn) (hx : ∀ (j : Nat) (x : Int), xs[j]? = some x → (m.1 (r0 + 1) j).toInt = x) (hg : cgd (wrl s t h) xs []) : ∃ M : Nat → Nat → Int64, D28_R_9 F r0 nn (Int32.ofNat t) (Int32.ofNat h) m = some (csum (wrl s t h) xs [], (m.1, M)) ∧ ∀ i j, i ≠ r0 + 2 → M i j = m.2 i j := by
  unfold D28_R_9
  exact c28_6 hF hn I ht hh F (p := 0) (st := []) R (by omega) (by omega) (fun j x hj => by rw [Nat.zero_add]; exact hx j x hj) (fun j x hx => by cases hx) (by decide) hg
end PCRS
