/-! A village in the class's cells (c) and in the reference's (s). -/
def cup (c : Nat → Int32) (k : Nat) (v : Int32) : Nat → Int32 := fun j => if j = k then v else c j
theorem cup_s (c : Nat → Int32) (k : Nat) (v : Int32) : cup c k v k = v := if_pos rfl
theorem cup_o {c : Nat → Int32} {k j : Nat} {v : Int32} (h : j ≠ k) : cup c k v j = c j := if_neg h
theorem xu_cup (m : xS) (i k : Nat) (v : Int32) : (xu m i k v).1 i = cup (m.1 i) k v := by
  funext j
  unfold xu cup
  dsimp only
  by_cases h : j = k
  · rw [if_pos h, if_pos ⟨rfl, h⟩]
  · rw [if_neg h, if_neg (fun z => h z.2)]
def tbt (x : Int32) (d : Nat) : Bool := x.toBitVec.getLsbD d
def vR (s : Nat → Int) (c : Nat → Int32) : Prop :=
  (∀ j, j < 6 → (c j).toInt = s j) ∧
  (∀ t w, t < 6 → w < 6 → (c (6 + 6 * w + t)).toInt = s (10 + 6 * t + w)) ∧
  (∀ w k, w < 6 → k < 4 → (c (42 + 6 * k + w)).toInt = s (124 + 4 * w + k)) ∧
  (∀ w : Nat, w < 6 → (w : Int) < s 3 → (c (66 + w)).toInt = s (118 + w)) ∧
  (∀ a d, a < 6 → d < 6 → s (46 + 6 * a + d) = if tbt (c (72 + a)) d = true then 1 else 0) ∧
  (∀ a d, a < 6 → d < 6 → (c (78 + 6 * a + d)).toInt = s (82 + 6 * a + d))
section VRL
variable {s : Nat → Int} {c : Nat → Int32} {v : Int32} {x : Int}
theorem vR_sc (h : vR s c) {j : Nat} (hj : j < 6) (h3 : j ≠ 3) (e : v.toInt = x) : vR (vup s j x) (cup c j v) := by
  obtain ⟨h1, h2, h4, h5, h6, h7⟩ := h
  refine ⟨fun i hi => ?_, fun t w ht hw => ?_, fun w k hw hk => ?_, fun w hw l => ?_, fun a d ha hd => ?_, fun a d ha hd => ?_⟩
  · by_cases z : i = j
    · subst z
      rw [cup_s, vup_s]
      exact e
    · rw [cup_o z, vup_o z]
      exact h1 i hi
  · rw [cup_o (by omega), vup_o (by omega)]
    exact h2 t w ht hw
  · rw [cup_o (by omega), vup_o (by omega)]
    exact h4 w k hw hk
  · rw [vup_o (by omega)] at l
    rw [cup_o (by omega), vup_o (by omega)]
    exact h5 w hw l
  · rw [cup_o (by omega), vup_o (by omega)]
    exact h6 a d ha hd
  · rw [cup_o (by omega), vup_o (by omega)]
    exact h7 a d ha hd
theorem vR_tool (h : vR s c) {t0 w0 : Nat} (ht0 : t0 < 6) (hw0 : w0 < 6) (e : v.toInt = x) : vR (vup s (10 + 6 * t0 + w0) x) (cup c (6 + 6 * w0 + t0) v) := by
  obtain ⟨h1, h2, h4, h5, h6, h7⟩ := h
  refine ⟨fun i hi => ?_, fun t w ht hw => ?_, fun w k hw hk => ?_, fun w hw l => ?_, fun a d ha hd => ?_, fun a d ha hd => ?_⟩
  · rw [cup_o (by omega), vup_o (by omega)]
    exact h1 i hi
  · by_cases z : t = t0 ∧ w = w0
    · obtain ⟨rfl, rfl⟩ := z
      rw [cup_s, vup_s]
      exact e
    · rw [cup_o (by omega), vup_o (by omega)]
      exact h2 t w ht hw
  · rw [cup_o (by omega), vup_o (by omega)]
    exact h4 w k hw hk
  · rw [vup_o (by omega)] at l
    rw [cup_o (by omega), vup_o (by omega)]
    exact h5 w hw l
  · rw [cup_o (by omega), vup_o (by omega)]
    exact h6 a d ha hd
  · rw [cup_o (by omega), vup_o (by omega)]
    exact h7 a d ha hd
theorem vR_work (h : vR s c) {w0 k0 : Nat} (hw0 : w0 < 6) (hk0 : k0 < 4) (e : v.toInt = x) : vR (vup s (124 + 4 * w0 + k0) x) (cup c (42 + 6 * k0 + w0) v) := by
  obtain ⟨h1, h2, h4, h5, h6, h7⟩ := h
  refine ⟨fun i hi => ?_, fun t w ht hw => ?_, fun w k hw hk => ?_, fun w hw l => ?_, fun a d ha hd => ?_, fun a d ha hd => ?_⟩
  · rw [cup_o (by omega), vup_o (by omega)]
    exact h1 i hi
  · rw [cup_o (by omega), vup_o (by omega)]
    exact h2 t w ht hw
  · by_cases z : w = w0 ∧ k = k0
    · obtain ⟨rfl, rfl⟩ := z
      rw [cup_s, vup_s]
      exact e
    · rw [cup_o (by omega), vup_o (by omega)]
      exact h4 w k hw hk
  · rw [vup_o (by omega)] at l
    rw [cup_o (by omega), vup_o (by omega)]
    exact h5 w hw l
  · rw [cup_o (by omega), vup_o (by omega)]
    exact h6 a d ha hd
  · rw [cup_o (by omega), vup_o (by omega)]
    exact h7 a d ha hd
theorem vR_done (h : vR s c) {w0 : Nat} (hw0 : w0 < 6) (e : v.toInt = x) : vR (vup s (118 + w0) x) (cup c (66 + w0) v) := by
  obtain ⟨h1, h2, h4, h5, h6, h7⟩ := h
  refine ⟨fun i hi => ?_, fun t w ht hw => ?_, fun w k hw hk => ?_, fun w hw l => ?_, fun a d ha hd => ?_, fun a d ha hd => ?_⟩
  · rw [cup_o (by omega), vup_o (by omega)]
    exact h1 i hi
  · rw [cup_o (by omega), vup_o (by omega)]
    exact h2 t w ht hw
  · rw [cup_o (by omega), vup_o (by omega)]
    exact h4 w k hw hk
  · rw [vup_o (by omega)] at l
    by_cases z : w = w0
    · subst z
      rw [cup_s, vup_s]
      exact e
    · rw [cup_o (by omega), vup_o (by omega)]
      exact h5 w hw l
  · rw [cup_o (by omega), vup_o (by omega)]
    exact h6 a d ha hd
  · rw [cup_o (by omega), vup_o (by omega)]
    exact h7 a d ha hd
theorem vR_thx (h : vR s c) {a0 d0 : Nat} (ha0 : a0 < 6) (hd0 : d0 < 6) (e : v.toInt = x) : vR (vup s (82 + 6 * a0 + d0) x) (cup c (78 + 6 * a0 + d0) v) := by
  obtain ⟨h1, h2, h4, h5, h6, h7⟩ := h
  refine ⟨fun i hi => ?_, fun t w ht hw => ?_, fun w k hw hk => ?_, fun w hw l => ?_, fun a d ha hd => ?_, fun a d ha hd => ?_⟩
  · rw [cup_o (by omega), vup_o (by omega)]
    exact h1 i hi
  · rw [cup_o (by omega), vup_o (by omega)]
    exact h2 t w ht hw
  · rw [cup_o (by omega), vup_o (by omega)]
    exact h4 w k hw hk
  · rw [vup_o (by omega)] at l
    rw [cup_o (by omega), vup_o (by omega)]
    exact h5 w hw l
  · rw [cup_o (by omega), vup_o (by omega)]
    exact h6 a d ha hd
  · by_cases z : a = a0 ∧ d = d0
    · obtain ⟨rfl, rfl⟩ := z
      rw [cup_s, vup_s]
      exact e
    · rw [cup_o (by omega), vup_o (by omega)]
      exact h7 a d ha hd
/-- a house's trust -/
theorem vR_tru (h : vR s c) {a0 d0 : Nat} {y : Bool} (ha0 : a0 < 6) (hd0 : d0 < 6) (e0 : tbt v d0 = y) (e1 : ∀ d, d < 6 → d ≠ d0 → tbt v d = tbt (c (72 + a0)) d) : vR (vup s (46 + 6 * a0 + d0) (if y = true then 1 else 0)) (cup c (72 + a0) v) := by
  obtain ⟨h1, h2, h4, h5, h6, h7⟩ := h
  refine ⟨fun i hi => ?_, fun t w ht hw => ?_, fun w k hw hk => ?_, fun w hw l => ?_, fun a d ha hd => ?_, fun a d ha hd => ?_⟩
  · rw [cup_o (by omega), vup_o (by omega)]
    exact h1 i hi
  · rw [cup_o (by omega), vup_o (by omega)]
    exact h2 t w ht hw
  · rw [cup_o (by omega), vup_o (by omega)]
    exact h4 w k hw hk
  · rw [vup_o (by omega)] at l
    rw [cup_o (by omega), vup_o (by omega)]
    exact h5 w hw l
  · by_cases za : a = a0
    · subst za
      rw [cup_s]
      by_cases zd : d = d0
      · subst zd
        rw [vup_s, e0]
      · rw [vup_o (by omega), e1 d hd zd]
        exact h6 a d ha hd
    · rw [cup_o (by omega), vup_o (by omega)]
      exact h6 a d ha hd
  · rw [cup_o (by omega), vup_o (by omega)]
    exact h7 a d ha hd
/-- one work more -/
theorem vR_nw (h : vR s c) {w0 : Nat} (e0 : s 3 = (w0 : Int)) (e1 : (c (66 + w0)).toInt = s (118 + w0)) (e : v.toInt = (w0 : Int) + 1) : vR (vup s 3 ((w0 : Int) + 1)) (cup c 3 v) := by
  obtain ⟨h1, h2, h4, h5, h6, h7⟩ := h
  refine ⟨fun i hi => ?_, fun t w ht hw => ?_, fun w k hw hk => ?_, fun w hw l => ?_, fun a d ha hd => ?_, fun a d ha hd => ?_⟩
  · by_cases z : i = 3
    · subst z
      rw [cup_s, vup_s]
      exact e
    · rw [cup_o z, vup_o z]
      exact h1 i hi
  · rw [cup_o (by omega), vup_o (by omega)]
    exact h2 t w ht hw
  · rw [cup_o (by omega), vup_o (by omega)]
    exact h4 w k hw hk
  · rw [vup_s] at l
    rw [cup_o (by omega), vup_o (by omega)]
    by_cases z : w = w0
    · subst z
      exact e1
    · exact h5 w hw (by omega)
  · rw [cup_o (by omega), vup_o (by omega)]
    exact h6 a d ha hd
  · rw [cup_o (by omega), vup_o (by omega)]
    exact h7 a d ha hd
theorem vup_id (s : Nat → Int) (k : Nat) (h : s k = x) : vup s k x = s := by
  funext j
  unfold vup
  split
  · next z => rw [z, h]
  · rfl
/-- said, as reading leaves it: no work is done -/
def vdn (s : Nat → Int) (j : Nat) : Int := if 118 ≤ j ∧ j < 124 then -1 else s j
theorem vdn_up {k : Nat} (h : ¬ (118 ≤ k ∧ k < 124)) : vdn (vup s k x) = vup (vdn s) k x := by
  funext j
  unfold vdn vup
  by_cases z : j = k
  · subst z
    rw [if_neg h, if_pos rfl, if_pos rfl]
  · rw [if_neg z, if_neg z]
theorem vdn_o {j : Nat} (h : ¬ (118 ≤ j ∧ j < 124)) : vdn s j = s j := if_neg h
/-- bits -/
theorem tb_or {x y : Int32} {d : Nat} : tbt (x ||| y) d = (tbt x d || tbt y d) := by
  unfold tbt
  rw [Int32.toBitVec_or, BitVec.getLsbD_or]
theorem tb_one {a d : Nat} (ha : a < 6) (hd : d < 6) : tbt ((1 : Int32) <<< (Int32.ofNat a &&& 31)) d = decide (d = a) := by
  have key : (List.range 6).all (fun a => (List.range 6).all (fun d => tbt ((1 : Int32) <<< (Int32.ofNat a &&& 31)) d == decide (d = a))) = true := by decide +kernel
  have k1 := List.all_eq_true.mp (List.all_eq_true.mp key a (List.mem_range.mpr ha)) d (List.mem_range.mpr hd)
  simpa using k1
theorem i32n {x : Int32} {a : Nat} (h : x.toInt = (a : Int)) : x = Int32.ofNat a := by
  apply Int32.toInt_inj.mp
  have := y32 x
  rw [xI (by omega), h]
end VRL
