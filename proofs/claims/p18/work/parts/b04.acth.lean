/-! Acts, as functions of the village. -/
def xr (m : xS) (i : Nat) (c : Nat → Int32) : xS := (fun a => if a = i then c else m.1 a, m.2)
def pgv (s : Nat → Int32) (t : Nat) (v : Int32) : Nat → Int32 := cup (cup (cup (cup s (10 + 6 * t) v) (10 + 6 * t + 3) v) (10 + 6 * t + 4) 0) (10 + 6 * t + 5) 0
def pth (s : Nat → Int32) (k : Nat) : Nat → Int32 := if (s k).toInt < 99 then cup s k (s k + 1) else s
def pld (s : Nat → Int32) (t h : Nat) : Nat → Int32 := cup (cup (pth s (82 + 6 * h + (s (10 + 6 * t + 3)).toInt.toNat)) (10 + 6 * t + 4) (s (10 + 6 * t + 4) + 1)) (10 + 6 * t + 3) (Int32.ofNat h)
def pwk (s : Nat → Int32) (w : Nat) : Nat → Int32 := cup (cup s (118 + w) (s 4)) 5 (s 5 + s (124 + 4 * w + 3))
def pqu (s : Nat → Int32) (a d : Nat) : Nat → Int32 := cup (cup s (46 + 6 * a + d) 0) (46 + 6 * d + a) 0
def pou (s : Nat → Int32) (t : Nat) : Nat → Int32 := if phm s t = true then s else cup s (10 + 6 * t + 5) (s (10 + 6 * t + 5) + 1)
def pous (s : Nat → Int32) : Nat → Nat → Nat → Int32
  | _, 0 => s
  | t, n + 1 => pous (pou s t) (t + 1) n
def pdy (s : Nat → Int32) : Nat → Int32 := cup (pous s 0 (s 2).toInt.toNat) 4 (s 4 + 1)
def plt (s : Nat → Int32) (t : Nat) : Bool := decide (0 < (prs s t).toInt)
section PAC
variable {s c : Nat → Int32} {v : Int32}
theorem xr_s (m : xS) (i : Nat) (c : Nat → Int32) : (xr m i c).1 i = c := if_pos rfl
theorem xr_o {m : xS} {i a : Nat} {c : Nat → Int32} (h : a ≠ i) : (xr m i c).1 a = m.1 a := if_neg h
theorem xr_xr (m : xS) (i : Nat) (c c' : Nat → Int32) : xr (xr m i c) i c' = xr m i c' := by
  refine Prod.ext (funext fun a => ?_) rfl
  show (if a = i then c' else (if a = i then c else m.1 a)) = if a = i then c' else m.1 a
  split <;> rfl
theorem xr_id (m : xS) (i : Nat) : xr m i (m.1 i) = m := by
  refine Prod.ext (funext fun a => ?_) rfl
  show (if a = i then m.1 i else m.1 a) = m.1 a
  split
  · next h => rw [h]
  · rfl
theorem xu_xr (m : xS) (i k : Nat) (v : Int32) : xu m i k v = xr m i (cup (m.1 i) k v) := by
  refine Prod.ext (funext fun a => ?_) rfl
  show (xu m i k v).1 a = if a = i then cup (m.1 i) k v else m.1 a
  by_cases h : a = i
  · subst h
    rw [if_pos rfl, xu_cup]
  · rw [if_neg h]
    exact funext fun j => xu_o (fun z => h z.1)
theorem cup_id (s : Nat → Int32) (k : Nat) (h : s k = v) : cup s k v = s := by
  funext j
  unfold cup
  split
  · next z => rw [z, h]
  · rfl
theorem cup_sw {x y : Int32} {i j : Nat} (h : i ≠ j) : cup (cup s i x) j y = cup (cup s j y) i x := by
  funext a
  unfold cup
  by_cases z : a = j
  · rw [if_pos z, if_neg (by omega), if_pos z]
  · rw [if_neg z]
    by_cases z2 : a = i
    · rw [if_pos z2, if_pos z2]
    · rw [if_neg z2, if_neg z2, if_neg z]
theorem sI_cup (s : Nat → Int32) (k : Nat) (v : Int32) : sI (cup s k v) = vup (sI s) k v.toInt := by
  funext j
  unfold sI cup vup
  split <;> rfl
theorem R_ut (R : R32 s c) {t w : Nat} (ht : t < 6) (hw : w < 6) : R32 (cup s (10 + 6 * t + w) v) (cup c (6 + 6 * w + t) v) := by
  unfold R32
  rw [sI_cup]
  exact vR_tool R ht hw rfl
theorem R_uj (R : R32 s c) {j : Nat} (hj : j < 6) (h3 : j ≠ 3) : R32 (cup s j v) (cup c j v) := by
  unfold R32
  rw [sI_cup]
  exact vR_sc R hj h3 rfl
theorem R_uh (R : R32 s c) {a d : Nat} (ha : a < 6) (hd : d < 6) : R32 (cup s (82 + 6 * a + d) v) (cup c (78 + 6 * a + d) v) := by
  unfold R32
  rw [sI_cup]
  exact vR_thx R ha hd rfl
theorem R_ud (R : R32 s c) {w : Nat} (hw : w < 6) : R32 (cup s (118 + w) v) (cup c (66 + w) v) := by
  unfold R32
  rw [sI_cup]
  exact vR_done R hw rfl
theorem R_uq (R : R32 s c) {a d : Nat} (ha : a < 6) (hd : d < 6) (e0 : tbt v d = false) (e1 : ∀ i, i < 6 → i ≠ d → tbt v i = tbt (c (72 + a)) i) : R32 (cup s (46 + 6 * a + d) 0) (cup c (72 + a) v) := by
  unfold R32
  rw [sI_cup]
  exact vR_tru R ha hd e0 e1
theorem R_gv (R : R32 s c) {t : Nat} (ht : t < 6) : R32 (pgv s t v) (cup (cup (cup (cup c (6 + 6 * 0 + t) v) (6 + 6 * 3 + t) v) (6 + 6 * 4 + t) 0) (6 + 6 * 5 + t) 0) := R_ut (R_ut (R_ut (R_ut R ht (w := 0) (by decide)) ht (w := 3) (by decide)) ht (w := 4) (by decide)) ht (w := 5) (by decide)
theorem tb_nand {x : Int32} {d i : Nat} (h0 : 0 ≤ x.toInt) (h1 : x.toInt ≤ 63) (hd : d < 6) (hi : i < 6) : tbt (x &&& (((1 : Int32) <<< (Int32.ofNat d &&& 31)) ^^^ (-1))) i = (tbt x i && !decide (i = d)) := by
  have key : (List.range 64).all (fun x => (List.range 6).all (fun d => (List.range 6).all (fun i => tbt (Int32.ofNat x &&& (((1 : Int32) <<< (Int32.ofNat d &&& 31)) ^^^ (-1))) i == (tbt (Int32.ofNat x) i && !decide (i = d))))) = true := by decide +kernel
  have e : x = Int32.ofNat x.toInt.toNat := i32n (by omega)
  have k1 := List.all_eq_true.mp (List.all_eq_true.mp (List.all_eq_true.mp key x.toInt.toNat (List.mem_range.mpr (by omega))) d (List.mem_range.mpr hd)) i (List.mem_range.mpr hi)
  rw [← e] at k1
  exact eq_of_beq k1
theorem tb_nb {x : Int32} {d : Nat} (h0 : 0 ≤ x.toInt) (h1 : x.toInt ≤ 63) (hd : d < 6) : 0 ≤ (x &&& (((1 : Int32) <<< (Int32.ofNat d &&& 31)) ^^^ (-1))).toInt ∧ (x &&& (((1 : Int32) <<< (Int32.ofNat d &&& 31)) ^^^ (-1))).toInt ≤ 63 := by
  have key : (List.range 64).all (fun x => (List.range 6).all (fun d => decide (0 ≤ (Int32.ofNat x &&& (((1 : Int32) <<< (Int32.ofNat d &&& 31)) ^^^ (-1))).toInt) && decide ((Int32.ofNat x &&& (((1 : Int32) <<< (Int32.ofNat d &&& 31)) ^^^ (-1))).toInt ≤ 63))) = true := by decide +kernel
  have e : x = Int32.ofNat x.toInt.toNat := i32n (by omega)
  have k1 := List.all_eq_true.mp (List.all_eq_true.mp key x.toInt.toNat (List.mem_range.mpr (by omega))) d (List.mem_range.mpr hd)
  rw [← e] at k1
  simpa using k1
theorem pth_o {k j : Nat} (h : j ≠ k) : pth s k j = s j := by
  unfold pth
  split
  · exact cup_o h
  · rfl
/-- thanks, 99 at most, as the class reckons -/
theorem R_th (R : R32 s c) (I : vI s) {a d : Nat} (ha : a < 6) (hd : d < 6) : R32 (pth s (82 + 6 * a + d)) (cup c (78 + 6 * a + d) (if s (82 + 6 * a + d) + 1 < 99 then s (82 + 6 * a + d) + 1 else 99)) := by
  have b := I.2.2.2.2 a d ha hd
  have e1 : (s (82 + 6 * a + d) + 1).toInt = (s (82 + 6 * a + d)).toInt + 1 := xa1 (by show _ ≤ _ + (1 : Int); omega) (by show _ + (1 : Int) ≤ _; omega)
  unfold pth
  by_cases l : (s (82 + 6 * a + d)).toInt < 99
  · rw [if_pos l]
    have e : (if s (82 + 6 * a + d) + 1 < 99 then s (82 + 6 * a + d) + 1 else 99) = s (82 + 6 * a + d) + 1 := by
      by_cases z : s (82 + 6 * a + d) + 1 < 99
      · rw [if_pos z]
      · rw [if_neg z]
        apply Int32.toInt_inj.mp
        have z : ¬ (s (82 + 6 * a + d) + 1).toInt < (99 : Int) := fun y => z (Int32.lt_iff_toInt_lt.mpr y)
        show (99 : Int) = _
        omega
    rw [e]
    exact R_uh R ha hd
  · rw [if_neg l]
    have z : ¬ s (82 + 6 * a + d) + 1 < 99 := fun y => by
      have y : (s (82 + 6 * a + d) + 1).toInt < (99 : Int) := Int32.lt_iff_toInt_lt.mp y
      omega
    rw [if_neg z, cup_id]
    · exact R
    · rw [R_h R ha hd]
      apply Int32.toInt_inj.mp
      show _ = (99 : Int)
      omega
theorem pou_R (R : R32 s c) {t : Nat} (ht : t < 6) : R32 (pou s t) (if phm s t = true then c else cup c (6 + 6 * 5 + t) (s (10 + 6 * t + 5) + 1)) := by
  unfold pou
  split
  · exact R
  · exact R_ut R ht (w := 5) (by decide)
/-- what a day leaves as it is -/
theorem pou_o {t j : Nat} (h : j ≠ 10 + 6 * t + 5) : pou s t j = s j := by
  unfold pou
  split
  · rfl
  · exact cup_o h
theorem pous_o : ∀ (n : Nat) {s : Nat → Int32} {t j : Nat}, (∀ i, t ≤ i → i < t + n → j ≠ 10 + 6 * i + 5) → pous s t n j = s j
  | 0, _, _, _, _ => rfl
  | n + 1, s, t, j, h => by
    show pous (pou s t) (t + 1) n j = s j
    rw [pous_o n (fun i h1 h2 => h i (by omega) (by omega)), pou_o (h t (by omega) (by omega))]
theorem pous_r : ∀ (n : Nat) {s : Nat → Int32} {t : Nat}, pous s t (n + 1) = pou (pous s t n) (t + n)
  | 0, _, _ => rfl
  | n + 1, s, t => by
    show pous (pou s t) (t + 1) (n + 1) = pou (pous (pou s t) (t + 1) n) (t + (n + 1))
    rw [pous_r n, show t + 1 + n = t + (n + 1) by omega]
end PAC
