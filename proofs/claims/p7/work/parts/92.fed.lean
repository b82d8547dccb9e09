/-! feed and end, both sides. -/
def cB (x s : Int32) : Int32 := ((x.toUInt32 >>> ((s : Int32).toUInt32 &&& Int32.toUInt32 31)).toInt32 &&& 255)
def rB8 (x s : Int32) : Int32 := vp_nar .byte ((x >>> (s &&& 31)) : Int32).toInt8.toInt32
theorem cr_k {x y : Int32} {k : Nat} {c : Int32} (hk : k ≤ 24) (e1 : y.toBitVec = x.toBitVec.sshiftRight k) (e2 : c.toBitVec = (x.toBitVec >>> k) &&& 255#32) : (0 ≤ c.toInt ∧ c.toInt ≤ 255) ∧ (y.toInt8.toInt32).toInt = (if c.toInt < 128 then c.toInt else c.toInt - 256) := by
  have l := x.toBitVec.isLt
  have c1 : c.toInt = c.toBitVec.toInt := rfl
  have c2 : c.toBitVec.toNat = (x.toBitVec.toNat / 2 ^ k) % 256 := by
    rw [e2, BitVec.toNat_and, BitVec.toNat_ushiftRight, Nat.shiftRight_eq_div_pow]
    exact Nat.and_two_pow_sub_one_eq_mod _ 8
  have c3 : c.toInt = (((x.toBitVec.toNat / 2 ^ k) % 256 : Nat) : Int) := by
    rw [c1, BitVec.toInt_eq_toNat_of_lt (by rw [c2]; omega), c2]
  have y1 : y.toInt = x.toBitVec.toInt / (2 ^ k : Nat) := by
    show y.toBitVec.toInt = _
    rw [e1, BitVec.toInt_sshiftRight, Int.shiftRight_eq_div_pow]
  have y2 : (y.toInt8.toInt32).toInt = y.toInt.bmod 256 := by
    rw [Int8.toInt_toInt32]
    exact Int32.toInt_toInt8 y
  refine ⟨⟨by rw [c3]; omega, by rw [c3]; omega⟩, ?_⟩
  rw [y2, y1, c3, Int.bmod_def]
  have xt := BitVec.toInt_eq_toNat_cond x.toBitVec
  have key : (x.toBitVec.toInt / ((2 ^ k : Nat) : Int)) % 256 = (((x.toBitVec.toNat / 2 ^ k) % 256 : Nat) : Int) := by
    split at xt
    · rw [xt]
      omega
    · rw [xt]
      have p : ((2 ^ 32 : Nat) : Int) = ((2 ^ (24 - k) : Nat) : Int) * 256 * ((2 ^ k : Nat) : Int) := by
        have : (2 ^ 32 : Nat) = 2 ^ (24 - k) * 256 * 2 ^ k := by
          rw [show (256 : Nat) = 2 ^ 8 from rfl, ← Nat.pow_add, ← Nat.pow_add]
          congr 1
          omega
        rw [this]
        simp
      have pk : (0 : Int) < ((2 ^ k : Nat) : Int) := by
        have := Nat.two_pow_pos k
        omega
      rw [p, show ((x.toBitVec.toNat : Nat) : Int) - ((2 ^ (24 - k) : Nat) : Int) * 256 * ((2 ^ k : Nat) : Int) = ((x.toBitVec.toNat : Nat) : Int) + (-(((2 ^ (24 - k) : Nat) : Int) * 256)) * ((2 ^ k : Nat) : Int) by rw [Int.neg_mul]; rfl, Int.add_mul_ediv_right _ _ (by omega)]
      generalize ((2 ^ (24 - k) : Nat) : Int) = A
      have e : ((x.toBitVec.toNat : Nat) : Int) / ((2 ^ k : Nat) : Int) = ((x.toBitVec.toNat / 2 ^ k : Nat) : Int) := (Int.natCast_ediv _ _).symm
      rw [e]
      generalize x.toBitVec.toNat / 2 ^ k = Q
      omega
  rw [show ((256 : Nat) : Int) = 256 from rfl]
  rw [key]
  generalize (x.toBitVec.toNat / 2 ^ k) % 256 = Q
  split <;> split <;> omega
theorem cr_ok (x : Int32) {s : Int32} (hs : s = 24 ∨ s = 16 ∨ s = 8 ∨ s = 0) : (0 ≤ (cB x s).toInt ∧ (cB x s).toInt ≤ 255) ∧ (rB8 x s).toInt = (if (cB x s).toInt < 128 then (cB x s).toInt else (cB x s).toInt - 256) := by
  have v : ∀ y : Int32, vp_nar .byte (y.toInt8.toInt32) = y.toInt8.toInt32 := fun y => by
    rw [vp_nar_byte]
    apply Int32.toInt_inj.mp
    rw [Int8.toInt_toInt32, Int8.toInt_toInt32, Int32.toInt_toInt8, Int8.toInt_toInt32]
    have h := Int32.toInt_toInt8 y
    rw [h]
    exact Int.bmod_bmod ..
  unfold rB8
  rw [v]
  rcases hs with rfl | rfl | rfl | rfl
  · exact cr_k (k := 24) (by decide) rfl rfl
  · exact cr_k (k := 16) (by decide) rfl rfl
  · exact cr_k (k := 8) (by decide) rfl rfl
  · exact cr_k (k := 0) (by decide) rfl rfl
