/-! Rules for printed bodies: rows of rows, copies of rows, longs in fields. -/
def xcp (m : xS) (d s n : Nat) : xS := (fun a b => if a = d ∧ b < n then m.1 s b else m.1 a b, m.2)
theorem xcp_o {m : xS} {d s n a : Nat} (h : a ≠ d) : (xcp m d s n).1 a = m.1 a := funext fun b => by
  unfold xcp
  exact if_neg (fun z => h z.1)
theorem xcp_s {m : xS} {d s n j : Nat} (h : j < n) : (xcp m d s n).1 d j = m.1 s j := by
  unfold xcp
  exact if_pos ⟨rfl, h⟩
def xtlf (ix a b : Nat) : Bool := decide (ix < 88) && ((yty ix).1 == 0 && ((yty ix).2.1 == a && (match (yty ix).2.2.2.2[b]? with
  | some t => t.1 == 1
  | none => false)))
theorem xibS {e : Int32} {n b : Nat} (h : xib e n = true) : b ≤ b + e.toNatClampNeg ∧ b + e.toNatClampNeg < b + n := by
  have h := of_decide_eq_true h
  omega
theorem xtS16_20 {r : Nat} (h : 16 ≤ r ∧ r < 36) : xta r 0 114 = true := by
  have key : (List.range 20).all (fun i => xta (16 + i) 0 114) = true := by decide +kernel
  have := List.all_eq_true.mp key (r - 16) (List.mem_range.mpr (by omega))
  rw [show 16 + (r - 16) = r by omega] at this
  exact this
theorem xtS37_4 {r : Nat} (h : 37 ≤ r ∧ r < 41) : xta r 0 114 = true := by
  have key : (List.range 4).all (fun i => xta (37 + i) 0 114) = true := by decide +kernel
  have := List.all_eq_true.mp key (r - 37) (List.mem_range.mpr (by omega))
  rw [show 37 + (r - 37) = r by omega] at this
  exact this
theorem xtS60_7 {r : Nat} (h : 60 ≤ r ∧ r < 67) : xta r 0 64 = true := by
  have key : (List.range 7).all (fun i => xta (60 + i) 0 64) = true := by decide +kernel
  have := List.all_eq_true.mp key (r - 60) (List.mem_range.mpr (by omega))
  rw [show 60 + (r - 60) = r by omega] at this
  exact this
section XRU3
variable {B : zHp} {s : xS} {ev : zEv} {d nL : Nat} {rt : Option FieldType} {cd : List (Option zEn)} {r : zRe} {q : zEn} {pc : Nat} {lv : List (Nat × Value)} {st : List Value} {hp : zHp}
theorem xtlf_ok (H : yH0 B) {ix a b : Nat} (h : xtlf ix a b = true) : ix < B.1 ∧ ix < zSC ∧ ∃ (fs : List Value) (x : Int64), B.2 ix = .inr (a, fs) ∧ fs[b]? = some (.long x) := by
  unfold xtlf at h
  simp only [Bool.and_eq_true, decide_eq_true_eq, beq_iff_eq] at h
  obtain ⟨h1, h2, h3, h4⟩ := h
  have l1 : ix < B.1 := Nat.lt_of_lt_of_le h1 H.1
  have c := H.2.2 ix l1
  unfold yokc at c
  rw [h2] at c
  obtain ⟨fs, e1, -, e3⟩ := c
  rw [h3] at e1
  split at h4
  · next t ht =>
    obtain ⟨v, v1, v2⟩ := e3 b t ht
    have h4 : t.1 = 1 := by simpa using h4
    unfold yft at v2
    rw [h4] at v2
    obtain ⟨x, rfl, -⟩ := v2
    exact ⟨l1, Nat.lt_trans h1 (by decide), fs, x, e1, v1⟩
  · cases h4
theorem xf_l {ix b : Nat} {fs : List Value} {x : Int64} (e : fs[b]? = some (.long x)) : (fs.mapIdx (xfv s ix))[b]? = some (.long (s.2 ix b)) := by
  rw [List.getElem?_mapIdx, e]
  rfl
theorem r_gl {i len a b ix : Nat} {rest : List Value} {v0 : Value} {v : Int64} (H : yH0 B) (hq : zg cd pc = some (.getfield i, len, a, b, v0)) (ha : ¬ a = 100) (ht : xtlf ix a b = true) (hv : s.2 ix b = v) (K : zR ev d nL rt cd (pc + 3, lv, .long v :: rest) (xW B s) r) : zR ev d nL rt cd (pc, lv, .ref ix :: rest) (xW B s) r := by
  obtain ⟨h1, h2, fs, x, h3, h4⟩ := xtlf_ok H ht
  subst hv
  exact r_get hq ha ⟨h1, h2⟩ (xW_o h3) (xf_l h4) K
theorem xW_putl {ix a b : Nat} {fs : List Value} {x v : Int64} (e : B.2 ix = .inr (a, fs)) (e2 : fs[b]? = some (.long x)) : ((xW B s).1, zup (xW B s).2 ix (.inr (a, (fs.mapIdx (xfv s ix)).set b (.long v)))) = xW B (xul s ix b v) := by
  refine Prod.ext rfl (funext fun i => ?_)
  show (if i = ix then _ else xcl s i (B.2 i)) = xcl (xul s ix b v) i (B.2 i)
  by_cases h : i = ix
  · subst h
    rw [if_pos rfl, e]
    show _ = Sum.inr (a, fs.mapIdx (xfv (xul s i b v) i))
    refine congrArg (fun z => Sum.inr (a, z)) (List.ext_getElem? fun j => ?_)
    rw [List.getElem?_set, List.getElem?_mapIdx, List.getElem?_mapIdx, List.length_mapIdx]
    by_cases hj : b = j
    · subst hj
      have hl : b < fs.length := (List.getElem?_eq_some_iff.mp e2).1
      rw [if_pos rfl, if_pos hl, e2]
      show some (Value.long v) = some (Value.long ((xul s i b v).2 i b))
      unfold xul
      dsimp only
      rw [if_pos ⟨rfl, rfl⟩]
    · rw [if_neg hj]
      cases fs[j]? with
      | none => rfl
      | some w =>
        show some (xfv s i j w) = some (xfv (xul s i b v) i j w)
        unfold xfv
        split
        · rfl
        · unfold xul
          dsimp only
          rw [if_neg (fun z => hj z.2.symm)]
        · rfl
  · rw [if_neg h]
    have e3 : ∀ j, (xul s ix b v).2 i j = s.2 i j := fun j => if_neg (fun z => h z.1)
    unfold xcl
    split
    · refine congrArg (fun z => Sum.inr (_, z)) (List.ext_getElem? fun j => ?_)
      rw [List.getElem?_mapIdx, List.getElem?_mapIdx]
      congr 1
      funext w
      unfold xfv
      split
      · rfl
      · rw [e3]
      · rfl
    · rfl
    · rw [show (xul s ix b v).2 i = s.2 i from funext e3]
    · rfl
theorem r_pl {i len a b ix : Nat} {rest : List Value} {v0 : Value} {v : Int64} {s2 : xS} (H : yH0 B) (hq : zg cd pc = some (.putfield i, len, a, b, v0)) (ht : xtlf ix a b = true) (hf : zfit (ztyp a b) (.long v) = true) (e : xul s ix b v = s2) (K : zR ev d nL rt cd (pc + 3, lv, rest) (xW B s2) r) : zR ev d nL rt cd (pc, lv, .long v :: .ref ix :: rest) (xW B s) r := by
  obtain ⟨h1, h2, fs, x, h3, h4⟩ := xtlf_ok H ht
  subst e
  refine r_put hq ⟨h1, h2, hf⟩ (xW_o h3) ?_ ?_
  · rw [List.length_mapIdx]
    exact (List.getElem?_eq_some_iff.mp h4).1
  · rw [xW_putl h3 h4]
    exact K
theorem q_bs2 {len a b ix n : Nat} {rest : List Value} {v0 : Value} {e v : Int32} {s2 : xS} (H : yH0 B) (hq : zg cd pc = some (.bastore, len, a, b, v0)) (ht : xta ix 2 n = true) (hj : xib e n = true) (e2 : xu s ix e.toNatClampNeg (vp_nar .boolean v) = s2) (K : zR ev d nL rt cd (pc + 1, lv, rest) (xW B s2) r) : zR ev d nL rt cd (pc, lv, .int v :: .int e :: .ref ix :: rest) (xW B s) r := by
  obtain ⟨h1, h2, -, f, h3⟩ := xta_ok H ht
  subst e2
  refine r_s (fr' := (pc + 1, lv, rest)) (hp' := xW B (xu s ix e.toNatClampNeg (vp_nar .boolean v))) hq (fun call => ?_) (Nat.le_refl _) K
  show zBast (pc, lv, .int v :: .int e :: .ref ix :: rest) (xW B s) = _
  unfold zBast zn
  dsimp only
  rw [if_pos (show ix < (xW B s).1 ∧ ix < zSC from ⟨h1, h2⟩), xW_a h3]
  show (if ¬ (e < 0 ∨ n ≤ e.toNatClampNeg) then some (Sum.inl ((pc + 1, lv, rest), (((xW B s).1, zup (xW B s).2 ix (.inl (2, n, .inl (upd (s.1 ix) e.toNatClampNeg (vp_nar .boolean v))))) : zHp))) else none) = _
  rw [if_pos (of_decide_eq_true hj), xW_st h3]
theorem q_aal {len a b0 ix n b : Nat} {rest : List Value} {v0 : Value} {e : Int32} (H : yH0 B) (hq : zg cd pc = some (.aaload, len, a, b0, v0)) (ht : yty ix = (1, 5, n, b, []) ∧ ix < 88) (hj : xib e n = true) (K : zR ev d nL rt cd (pc + 1, lv, .ref (b + e.toNatClampNeg) :: rest) (xW B s) r) : zR ev d nL rt cd (pc, lv, .int e :: .ref ix :: rest) (xW B s) r := by
  have l1 : ix < B.1 := Nat.lt_of_lt_of_le ht.2 H.1
  have c := H.2.2 ix l1
  rw [ht.1] at c
  have c : ∃ f : Nat → Option Nat, B.2 ix = .inl (5, n, .inr (.inr (.inr (.inr f)))) ∧ ∀ j, j < n → f j = some (b + j) := c
  obtain ⟨f, e1, e2⟩ := c
  have hj' := of_decide_eq_true hj
  have w : (xW B s).2 ix = .inl (5, n, .inr (.inr (.inr (.inr f)))) := by
    show xcl s ix (B.2 ix) = _
    rw [e1]
    rfl
  refine r_s hq (fun call => ?_) (Nat.le_refl _) K
  show zAald (pc, lv, .int e :: .ref ix :: rest) (xW B s) = _
  unfold zAald zn
  dsimp only
  rw [if_pos (show ix < (xW B s).1 ∧ ix < zSC from ⟨l1, Nat.lt_trans ht.2 (by decide)⟩), w]
  show (if ¬ (e < 0 ∨ n ≤ e.toNatClampNeg) then zn (pc + 1) lv (va_rf (f e.toNatClampNeg) :: rest) (xW B s) else none) = _
  rw [if_pos hj', e2 _ (by omega)]
  rfl
theorem q_cpy {i len a x y n n0 n1 : Nat} {rest : List Value} {v0 : Value} {N : Int32} (H : yH0 B) (hq : zg cd pc = some (.invokestatic i, len, a, 0, v0)) (hs : xta y 0 n0 = true) (hd : xta x 0 n1 = true) (l0 : n ≤ n0) (l1 : n ≤ n1) (ne : x ≠ y) (hsm : (rest.map fun v => v.category).sum ≤ 8) (K : zR ev d nL rt cd (pc + 3, lv, rest) (xW B (xcp s x y n)) r) (hN : N = Int32.ofNat n := by rfl) (hn : n < 2000 := by decide) : zR ev d nL rt cd (pc, lv, .int N :: .int 0 :: .ref x :: .int 0 :: .ref y :: rest) (xW B s) r := by
  obtain ⟨a1, a2, -, f, e1⟩ := xta_ok H hs
  obtain ⟨b1, b2, -, g, e2⟩ := xta_ok H hd
  subst hN
  have nn : (Int32.ofNat n).toNatClampNeg = n := by
    show (Int32.ofNat n).toInt.toNat = n
    rw [xI (by omega)]
    omega
  have n0' : ¬ Int32.ofNat n < 0 := fun z => by
    have z : (Int32.ofNat n).toInt < (0 : Int) := Int32.lt_iff_toInt_lt.mp z
    rw [xI (by omega)] at z
    omega
  have hk : ((xW B s).1, zup (xW B s).2 x (.inl (0, n1, .inl (va_cpy (s.1 y) (s.1 x) 0 0 n)))) = xW B (xcp s x y n) := by
    refine Prod.ext rfl (funext fun j => ?_)
    show (if j = x then _ else xcl s j (B.2 j)) = xcl (xcp s x y n) j (B.2 j)
    by_cases h : j = x
    · subst h
      rw [if_pos rfl, e2]
      show _ = Sum.inl (0, n1, Sum.inl ((xcp s j y n).1 j))
      have : va_cpy (s.1 y) (s.1 j) 0 0 n = (xcp s j y n).1 j := by
        funext k
        unfold va_cpy xcp
        dsimp only
        by_cases hk : k < n
        · rw [if_pos ⟨Nat.zero_le _, by omega⟩, if_pos ⟨rfl, hk⟩]
          show s.1 y (0 + (k - 0)) = s.1 y k
          rw [Nat.zero_add, Nat.sub_zero]
        · rw [if_neg (fun z => hk (by omega)), if_neg (fun z => hk z.2)]
      rw [this]
    · rw [if_neg h]
      have e3 : ∀ k, (xcp s x y n).1 j k = s.1 j k := fun k => if_neg (fun z => h z.1)
      unfold xcl
      split
      · refine congrArg (fun z => Sum.inr (_, z)) (List.ext_getElem? fun k => ?_)
        rw [List.getElem?_mapIdx, List.getElem?_mapIdx]
        congr 1
        funext w
        unfold xfv
        split
        · rw [e3]
        · rfl
        · rfl
      · rw [show (xcp s x y n).1 j = s.1 j from funext e3]
      · rfl
      · rfl
  refine r_s (fr' := (pc + 3, lv, rest)) (hp' := xW B (xcp s x y n)) hq (fun call => ?_) (Nat.le_refl _) K
  show zCpy (pc, lv, .int (Int32.ofNat n) :: .int 0 :: .ref x :: .int 0 :: .ref y :: rest) (xW B s) = _
  unfold zCpy zn
  dsimp only
  rw [if_pos (show y < (xW B s).1 ∧ y < zSC ∧ x < (xW B s).1 ∧ x < zSC ∧ y ≠ x ∧ ¬ (0 : Int32) < 0 ∧ ¬ (0 : Int32) < 0 ∧ ¬ Int32.ofNat n < 0 from ⟨a1, a2, b1, b2, fun z => ne z.symm, by decide, by decide, n0'⟩), xW_a e1, xW_a e2]
  rw [nn]
  show (if (0 : Int32).toNatClampNeg + n ≤ n0 ∧ (0 : Int32).toNatClampNeg + n ≤ n1 ∧ (rest.map fun v => v.category).sum ≤ 8 then some (Sum.inl ((pc + 3, lv, rest), (((xW B s).1, zup (xW B s).2 x (.inl (0, n1, .inl (va_cpy (s.1 y) (s.1 x) (0 : Int32).toNatClampNeg (0 : Int32).toNatClampNeg n)))) : zHp))) else none) = _
  rw [if_pos (show (0 : Int32).toNatClampNeg + n ≤ n0 ∧ (0 : Int32).toNatClampNeg + n ≤ n1 ∧ (rest.map fun v => v.category).sum ≤ 8 from ⟨by show 0 + n ≤ n0; omega, by show 0 + n ≤ n1; omega, hsm⟩)]
  rw [← hk]
  rfl
end XRU3
