/-! A flat memory: ints by cell and place. -/
abbrev xS : Type := (Nat → Nat → Int32) × (Nat → Nat → Int64)
def xfv (s : xS) (i j : Nat) (v : Value) : Value := match v with
  | .int _ => .int (s.1 i j)
  | .long _ => .long (s.2 i j)
  | w => w
def xcl (s : xS) (i : Nat) (c : zCl) : zCl := match c with
  | .inr (k, fs) => .inr (k, fs.mapIdx (xfv s i))
  | .inl (k, n, .inl _) => .inl (k, n, .inl (s.1 i))
  | .inl (k, n, .inr (.inl _)) => .inl (k, n, .inr (.inl (s.2 i)))
  | c => c
def xW (B : zHp) (s : xS) : zHp := (B.1, fun i => xcl s i (B.2 i))
def xof (hp : zHp) : xS := (fun i j => match hp.2 i with
  | .inr (_, fs) => (match fs[j]? with
    | some (.int x) => x
    | _ => 0)
  | .inl (_, _, .inl f) => f j
  | _ => 0, fun i j => match hp.2 i with
  | .inr (_, fs) => (match fs[j]? with
    | some (.long x) => x
    | _ => 0)
  | .inl (_, _, .inr (.inl f)) => f j
  | _ => 0)
theorem xW_of (hp : zHp) : xW hp (xof hp) = hp := by
  refine Prod.ext rfl (funext fun i => ?_)
  show xcl (xof hp) i (hp.2 i) = hp.2 i
  unfold xcl
  split
  · next k fs e =>
    rw [e]
    refine congrArg (fun z => Sum.inr (k, z)) (List.ext_getElem? fun j => ?_)
    rw [List.getElem?_mapIdx]
    cases h : fs[j]? with
    | none => rfl
    | some v =>
      show some (xfv (xof hp) i j v) = some v
      unfold xfv
      split
      · next x =>
        have : (xof hp).1 i j = x := by
          unfold xof
          dsimp only
          rw [e]
          dsimp only
          rw [h]
        rw [this]
      · next x =>
        have : (xof hp).2 i j = x := by
          unfold xof
          dsimp only
          rw [e]
          dsimp only
          rw [h]
        rw [this]
      · rfl
  · next k n f e =>
    rw [e]
    have : (xof hp).1 i = f := by
      funext j
      unfold xof
      dsimp only
      rw [e]
    rw [this]
  · next k n f e =>
    rw [e]
    have : (xof hp).2 i = f := by
      funext j
      unfold xof
      dsimp only
      rw [e]
    rw [this]
  · next e => rfl
def xu (s : xS) (i j : Nat) (v : Int32) : xS := (fun a b => if a = i ∧ b = j then v else s.1 a b, s.2)
def xul (s : xS) (i j : Nat) (v : Int64) : xS := (s.1, fun a b => if a = i ∧ b = j then v else s.2 a b)
/-- an object's int field, or reference field; rows -/
def xti (ix a b : Nat) : Bool := decide (ix < 88) && ((yty ix).1 == 0 && ((yty ix).2.1 == a && (match (yty ix).2.2.2.2[b]? with
  | some t => t.1 == 0
  | none => false)))
def xtr (ix a b c : Nat) : Bool := decide (ix < 88) && ((yty ix).1 == 0 && ((yty ix).2.1 == a && (match (yty ix).2.2.2.2[b]? with
  | some t => t.1 == 2 && (t.2.1 == (c : Int) && t.2.2 == (c : Int))
  | none => false)))
def xto (ix a : Nat) : Bool := decide (ix < 88) && ((yty ix).1 == 0 && (yty ix).2.1 == a)
def xta (ix k n : Nat) : Bool := decide (ix < 88) && ((yty ix).1 == 1 && ((yty ix).2.1 == k && ((yty ix).2.2.1 == n && decide (k < 3))))
section XMEM
variable {B : zHp} {s : xS} {ev : zEv} {d nL : Nat} {rt : Option FieldType} {cd : List (Option zEn)} {r : zRe}
theorem xti_ok (H : yH0 B) {ix a b : Nat} (h : xti ix a b = true) : ix < B.1 ∧ ix < zSC ∧ ∃ (fs : List Value) (x : Int32), B.2 ix = .inr (a, fs) ∧ fs[b]? = some (.int x) := by
  unfold xti at h
  simp only [Bool.and_eq_true, decide_eq_true_eq, beq_iff_eq] at h
  obtain ⟨h1, h2, h3, h4⟩ := h
  have l1 : ix < B.1 := Nat.lt_of_lt_of_le h1 H.1
  have c := H.2.2 ix l1
  unfold yokc at c
  rw [h2] at c
  obtain ⟨fs, e1, -, e3⟩ := c
  rw [h3] at e1
  split at h4
  · next t ht =>
    obtain ⟨v, v1, v2⟩ := e3 b t ht
    have h4 : t.1 = 0 := by simpa using h4
    unfold yft at v2
    rw [h4] at v2
    obtain ⟨x, rfl, -⟩ := v2
    exact ⟨l1, Nat.lt_trans h1 (by decide), fs, x, e1, v1⟩
  · cases h4
theorem xtr_ok (H : yH0 B) {ix a b c : Nat} (h : xtr ix a b c = true) : ix < B.1 ∧ ix < zSC ∧ ∃ (fs : List Value), B.2 ix = .inr (a, fs) ∧ fs[b]? = some (.ref c) := by
  unfold xtr at h
  simp only [Bool.and_eq_true, decide_eq_true_eq, beq_iff_eq] at h
  obtain ⟨h1, h2, h3, h4⟩ := h
  have l1 : ix < B.1 := Nat.lt_of_lt_of_le h1 H.1
  have c0 := H.2.2 ix l1
  unfold yokc at c0
  rw [h2] at c0
  obtain ⟨fs, e1, -, e3⟩ := c0
  rw [h3] at e1
  split at h4
  · next t ht =>
    obtain ⟨v, v1, v2⟩ := e3 b t ht
    simp only [Bool.and_eq_true, beq_iff_eq] at h4
    unfold yft at v2
    rw [h4.1] at v2
    obtain ⟨i, rfl, a1, a2⟩ := v2
    have : i = c := by omega
    subst this
    exact ⟨l1, Nat.lt_trans h1 (by decide), fs, e1, v1⟩
  · cases h4
theorem xta_ok (H : yH0 B) {ix k n : Nat} (h : xta ix k n = true) : ix < B.1 ∧ ix < zSC ∧ k < 3 ∧ ∃ f : Nat → Int32, B.2 ix = .inl (k, n, .inl f) := by
  unfold xta at h
  simp only [Bool.and_eq_true, decide_eq_true_eq, beq_iff_eq] at h
  obtain ⟨h1, h2, h3, h4, h5⟩ := h
  have l1 : ix < B.1 := Nat.lt_of_lt_of_le h1 H.1
  have c := H.2.2 ix l1
  unfold yokc at c
  rw [h2] at c
  have c : (match (yty ix).2.1 with
    | 3 => ∃ f : Nat → Int64, B.2 ix = .inl (3, (yty ix).2.2.1, .inr (.inl f))
    | 4 => ∃ f : Nat → Option Nat, B.2 ix = .inl (4, (yty ix).2.2.1, .inr (.inr (.inr (.inr f)))) ∧ ∀ j, j < (yty ix).2.2.1 → f j = none ∨ ∃ k : Nat, f j = some (88 + 3 * k) ∧ 88 + 3 * k + 2 < B.1
    | 5 => ∃ f : Nat → Option Nat, B.2 ix = .inl (5, (yty ix).2.2.1, .inr (.inr (.inr (.inr f)))) ∧ ∀ j, j < (yty ix).2.2.1 → f j = some ((yty ix).2.2.2.1 + j)
    | k => k < 3 ∧ ∃ f : Nat → Int32, B.2 ix = .inl (k, (yty ix).2.2.1, .inl f) ∧ ∀ j, j < (yty ix).2.2.1 → (yel (yty ix).2.2.2.1 j).1 ≤ (f j).toInt ∧ (f j).toInt ≤ (yel (yty ix).2.2.2.1 j).2) := c
  rw [h3, h4] at c
  have k3 : k = 0 ∨ k = 1 ∨ k = 2 := by omega
  refine ⟨l1, Nat.lt_trans h1 (by decide), h5, ?_⟩
  rcases k3 with rfl | rfl | rfl
  · obtain ⟨-, f, e, -⟩ := c
    exact ⟨f, e⟩
  · obtain ⟨-, f, e, -⟩ := c
    exact ⟨f, e⟩
  · obtain ⟨-, f, e, -⟩ := c
    exact ⟨f, e⟩
theorem xW_o {ix a : Nat} {fs : List Value} (e : B.2 ix = .inr (a, fs)) : (xW B s).2 ix = .inr (a, fs.mapIdx (xfv s ix)) := by
  show xcl s ix (B.2 ix) = _
  rw [e]
  rfl
theorem xW_a {ix k n : Nat} {f : Nat → Int32} (e : B.2 ix = .inl (k, n, .inl f)) : (xW B s).2 ix = .inl (k, n, .inl (s.1 ix)) := by
  show xcl s ix (B.2 ix) = _
  rw [e]
  rfl
theorem xf_i {ix b : Nat} {fs : List Value} {x : Int32} (e : fs[b]? = some (.int x)) : (fs.mapIdx (xfv s ix))[b]? = some (.int (s.1 ix b)) := by
  rw [List.getElem?_mapIdx, e]
  rfl
theorem xf_r {ix b c : Nat} {fs : List Value} (e : fs[b]? = some (.ref c)) : (fs.mapIdx (xfv s ix))[b]? = some (.ref c) := by
  rw [List.getElem?_mapIdx, e]
  rfl
theorem xkd (H : yH0 B) {ix a : Nat} (h : xto ix a = true) : zKd ix (xW B s) = some a := by
  unfold xto at h
  simp only [Bool.and_eq_true, decide_eq_true_eq, beq_iff_eq] at h
  obtain ⟨h1, h2, h3⟩ := h
  have l1 : ix < B.1 := Nat.lt_of_lt_of_le h1 H.1
  have c := H.2.2 ix l1
  unfold yokc at c
  rw [h2] at c
  obtain ⟨fs, e1, -, -⟩ := c
  rw [h3] at e1
  unfold zKd
  rw [if_pos (show ix < zSC from Nat.lt_trans h1 (by decide)), if_pos (show ix < (xW B s).1 from l1), xW_o e1]
theorem r_gi {pc i len a b ix : Nat} {lv : List (Nat × Value)} {rest : List Value} {v0 : Value} {v : Int32} (H : yH0 B) (hq : zg cd pc = some (.getfield i, len, a, b, v0)) (ha : ¬ a = 100) (ht : xti ix a b = true) (hv : s.1 ix b = v) (K : zR ev d nL rt cd (pc + 3, lv, .int v :: rest) (xW B s) r) : zR ev d nL rt cd (pc, lv, .ref ix :: rest) (xW B s) r := by
  obtain ⟨h1, h2, fs, x, h3, h4⟩ := xti_ok H ht
  subst hv
  exact r_get hq ha ⟨h1, h2⟩ (xW_o h3) (xf_i h4) K
theorem r_gr {pc i len a b ix c : Nat} {lv : List (Nat × Value)} {rest : List Value} {v0 : Value} (H : yH0 B) (hq : zg cd pc = some (.getfield i, len, a, b, v0)) (ha : ¬ a = 100) (ht : xtr ix a b c = true) (K : zR ev d nL rt cd (pc + 3, lv, .ref c :: rest) (xW B s) r) : zR ev d nL rt cd (pc, lv, .ref ix :: rest) (xW B s) r := by
  obtain ⟨h1, h2, fs, h3, h4⟩ := xtr_ok H ht
  exact r_get hq ha ⟨h1, h2⟩ (xW_o h3) (xf_r h4) K
theorem xW_put {ix a b : Nat} {fs : List Value} {x v : Int32} (e : B.2 ix = .inr (a, fs)) (e2 : fs[b]? = some (.int x)) : ((xW B s).1, zup (xW B s).2 ix (.inr (a, (fs.mapIdx (xfv s ix)).set b (.int v)))) = xW B (xu s ix b v) := by
  refine Prod.ext rfl (funext fun i => ?_)
  show (if i = ix then _ else xcl s i (B.2 i)) = xcl (xu s ix b v) i (B.2 i)
  by_cases h : i = ix
  · subst h
    rw [if_pos rfl, e]
    show _ = Sum.inr (a, fs.mapIdx (xfv (xu s i b v) i))
    refine congrArg (fun z => Sum.inr (a, z)) (List.ext_getElem? fun j => ?_)
    rw [List.getElem?_set, List.getElem?_mapIdx, List.getElem?_mapIdx, List.length_mapIdx]
    by_cases hj : b = j
    · subst hj
      have hl : b < fs.length := by
        have := List.getElem?_eq_some_iff.mp e2
        exact this.1
      rw [if_pos rfl, if_pos hl, e2]
      show some (Value.int v) = some (Value.int ((xu s i b v).1 i b))
      unfold xu
      dsimp only
      rw [if_pos ⟨rfl, rfl⟩]
    · rw [if_neg hj]
      cases fs[j]? with
      | none => rfl
      | some w =>
        show some (xfv s i j w) = some (xfv (xu s i b v) i j w)
        unfold xfv
        split
        · unfold xu
          dsimp only
          rw [if_neg (fun z => hj z.2.symm)]
        · rfl
        · rfl
  · rw [if_neg h]
    have e3 : ∀ j, (xu s ix b v).1 i j = s.1 i j := fun j => if_neg (fun z => h z.1)
    unfold xcl
    split
    · refine congrArg (fun z => Sum.inr (_, z)) (List.ext_getElem? fun j => ?_)
      rw [List.getElem?_mapIdx, List.getElem?_mapIdx]
      congr 1
      funext w
      unfold xfv
      split
      · rw [e3]
      · rfl
      · rfl
    · rw [show (xu s ix b v).1 i = s.1 i from funext e3]
    · rfl
    · rfl
theorem r_pi {pc i len a b ix : Nat} {lv : List (Nat × Value)} {rest : List Value} {v0 : Value} {v : Int32} {s2 : xS} (H : yH0 B) (hq : zg cd pc = some (.putfield i, len, a, b, v0)) (ht : xti ix a b = true) (hf : zfit (ztyp a b) (.int v) = true) (e : xu s ix b v = s2) (K : zR ev d nL rt cd (pc + 3, lv, rest) (xW B s2) r) : zR ev d nL rt cd (pc, lv, .int v :: .ref ix :: rest) (xW B s) r := by
  obtain ⟨h1, h2, fs, x, h3, h4⟩ := xti_ok H ht
  subst e
  refine r_put hq ⟨h1, h2, hf⟩ (xW_o h3) ?_ ?_
  · rw [List.length_mapIdx]
    exact (List.getElem?_eq_some_iff.mp h4).1
  · rw [xW_put h3 h4]
    exact K
theorem r_al {pc len a b ix n : Nat} {lv : List (Nat × Value)} {rest : List Value} {v0 : Value} {j : Nat} {v : Int32} (H : yH0 B) (hq : zg cd pc = some (.iaload, len, a, b, v0)) (ht : xta ix 0 n = true) (hn : n ≤ 2999) (hj : j < n) (hv : s.1 ix j = v) (K : zR ev d nL rt cd (pc + 1, lv, .int v :: rest) (xW B s) r) : zR ev d nL rt cd (pc, lv, .int (Int32.ofNat j) :: .ref ix :: rest) (xW B s) r := by
  obtain ⟨h1, h2, -, f, h3⟩ := xta_ok H ht
  subst hv
  exact r_iald hq ⟨h2, h1⟩ (xW_a h3) (yIok (by omega) hj) (congrArg (s.1 ix) (yI32n (by omega))) K
theorem r_bl {pc len a b ix k n : Nat} {lv : List (Nat × Value)} {rest : List Value} {v0 : Value} {j : Nat} {v : Int32} (H : yH0 B) (hq : zg cd pc = some (.baload, len, a, b, v0)) (ht : xta ix k n = true) (hk : k ≠ 0) (hn : n ≤ 2999) (hj : j < n) (hv : s.1 ix j = v) (K : zR ev d nL rt cd (pc + 1, lv, .int v :: rest) (xW B s) r) : zR ev d nL rt cd (pc, lv, .int (Int32.ofNat j) :: .ref ix :: rest) (xW B s) r := by
  obtain ⟨h1, h2, h5, f, h3⟩ := xta_ok H ht
  subst hv
  have k3 : k = 1 ∨ k = 2 := by omega
  refine r_s hq (fun call => ?_) (Nat.le_refl _) K
  show zBald ztb ev (pc, lv, .int (Int32.ofNat j) :: .ref ix :: rest) (xW B s) = _
  unfold zBald
  dsimp only
  rw [if_pos h2, if_pos (show ix < (xW B s).1 from h1), xW_a h3]
  rcases k3 with rfl | rfl
  · show (if ¬ (Int32.ofNat j < 0 ∨ n ≤ (Int32.ofNat j).toNatClampNeg) then zn (pc + 1) lv (.int (s.1 ix (Int32.ofNat j).toNatClampNeg) :: rest) (xW B s) else none) = _
    rw [if_pos (yIok (by omega) hj), yI32n (by omega)]
    rfl
  · show (if ¬ (Int32.ofNat j < 0 ∨ n ≤ (Int32.ofNat j).toNatClampNeg) then zn (pc + 1) lv (.int (s.1 ix (Int32.ofNat j).toNatClampNeg) :: rest) (xW B s) else none) = _
    rw [if_pos (yIok (by omega) hj), yI32n (by omega)]
    rfl
theorem xW_st {ix k n : Nat} {f : Nat → Int32} {j : Nat} {v : Int32} (e : B.2 ix = .inl (k, n, .inl f)) : ((xW B s).1, zup (xW B s).2 ix (.inl (k, n, .inl (upd (s.1 ix) j v)))) = xW B (xu s ix j v) := by
  refine Prod.ext rfl (funext fun i => ?_)
  show (if i = ix then _ else xcl s i (B.2 i)) = xcl (xu s ix j v) i (B.2 i)
  by_cases h : i = ix
  · subst h
    rw [if_pos rfl, e]
    show _ = Sum.inl (k, n, Sum.inl ((xu s i j v).1 i))
    have : upd (s.1 i) j v = (xu s i j v).1 i := by
      funext m
      unfold xu upd
      dsimp only
      by_cases hm : m = j
      · rw [if_pos hm, if_pos ⟨rfl, hm⟩]
      · rw [if_neg hm, if_neg (fun z => hm z.2)]
    rw [this]
  · rw [if_neg h]
    have e3 : ∀ m, (xu s ix j v).1 i m = s.1 i m := fun m => if_neg (fun z => h z.1)
    unfold xcl
    split
    · refine congrArg (fun z => Sum.inr (_, z)) (List.ext_getElem? fun m => ?_)
      rw [List.getElem?_mapIdx, List.getElem?_mapIdx]
      congr 1
      funext w
      unfold xfv
      split
      · rw [e3]
      · rfl
      · rfl
    · rw [show (xu s ix j v).1 i = s.1 i from funext e3]
    · rfl
    · rfl
theorem r_as {pc len a b ix n : Nat} {lv : List (Nat × Value)} {rest : List Value} {v0 : Value} {j : Nat} {v : Int32} {s2 : xS} (H : yH0 B) (hq : zg cd pc = some (.iastore, len, a, b, v0)) (ht : xta ix 0 n = true) (hn : n ≤ 2999) (hj : j < n) (e : xu s ix j v = s2) (K : zR ev d nL rt cd (pc + 1, lv, rest) (xW B s2) r) : zR ev d nL rt cd (pc, lv, .int v :: .int (Int32.ofNat j) :: .ref ix :: rest) (xW B s) r := by
  obtain ⟨h1, h2, -, f, h3⟩ := xta_ok H ht
  subst e
  refine r_iast hq ⟨h1, h2⟩ (xW_a h3) (yIok (by omega) hj) ?_
  rw [yI32n (by omega), xW_st h3]
  exact K
end XMEM
/-- comparisons of small numbers -/
def xnc (c : _root_.Jvm.ClassFile.Cond) (a b : Nat) : Bool := match c with
  | .eq => decide (a = b)
  | .ne => decide (¬ a = b)
  | .lt => decide (a < b)
  | .ge => decide (b ≤ a)
  | .gt => decide (b < a)
  | .le => decide (a ≤ b)
theorem xI {a : Nat} (h : a < 2147483648) : (Int32.ofNat a).toInt = (a : Int) := Int32.toInt_ofNat_of_lt (by omega)
theorem xeq {a b : Nat} (ha : a < 2147483648) (hb : b < 2147483648) : Int32.ofNat a = Int32.ofNat b ↔ a = b := by
  rw [← Int32.toInt_inj, xI ha, xI hb]
  omega
theorem xcmp {c : _root_.Jvm.ClassFile.Cond} {a b : Nat} (ha : a < 2147483648) (hb : b < 2147483648) : zcmp c (Int32.ofNat a) (Int32.ofNat b) = xnc c a b := by
  cases c with
  | eq => exact decide_eq_decide.mpr (xeq ha hb)
  | ne => exact decide_eq_decide.mpr (not_congr (xeq ha hb))
  | lt => exact decide_eq_decide.mpr (by rw [Int32.lt_iff_toInt_lt, xI ha, xI hb]; omega)
  | ge => exact decide_eq_decide.mpr (by rw [Int32.le_iff_toInt_le, xI ha, xI hb]; omega)
  | gt => exact decide_eq_decide.mpr (by rw [Int32.lt_iff_toInt_lt, xI ha, xI hb]; omega)
  | le => exact decide_eq_decide.mpr (by rw [Int32.le_iff_toInt_le, xI ha, xI hb]; omega)
/-- sums and products of small numbers -/
theorem xadd {a b : Nat} (h : a + b < 2147483648) : Int32.ofNat a + Int32.ofNat b = Int32.ofNat (a + b) := by
  apply Int32.toInt_inj.mp
  rw [Int32.toInt_add, xI (by omega), xI (by omega), xI h]
  exact Int.bmod_eq_of_le_mul_two (by omega) (by omega)
theorem xsub {a b : Nat} (h : a < 2147483648) (hb : b ≤ a) : Int32.ofNat a - Int32.ofNat b = Int32.ofNat (a - b) := by
  apply Int32.toInt_inj.mp
  rw [Int32.toInt_sub, xI h, xI (by omega), xI (by omega)]
  have := Int.bmod_eq_of_le_mul_two (x := (a : Int) - (b : Int)) (y := 2 ^ 32) (by omega) (by omega)
  omega
theorem xmul {a b : Nat} (h : a * b < 2147483648) (ha : a < 2147483648) (hb : b < 2147483648) : Int32.ofNat a * Int32.ofNat b = Int32.ofNat (a * b) := by
  apply Int32.toInt_inj.mp
  have e : ((a : Int) * (b : Int)) = ((a * b : Nat) : Int) := by simp
  rw [Int32.toInt_mul, xI ha, xI hb, xI h, e]
  exact Int.bmod_eq_of_le_mul_two (by omega) (by omega)
