/-! Rows of longs; switches. -/
def xtl (ix n : Nat) : Bool := decide (ix < 88) && ((yty ix).1 == 1 && ((yty ix).2.1 == 3 && ((yty ix).2.2.1 == n)))
section XLNG
variable {B : zHp} {s : xS} {ev : zEv} {d nL : Nat} {rt : Option FieldType} {cd : List (Option zEn)} {r : zRe} {q : zEn} {pc : Nat} {lv : List (Nat × Value)} {st : List Value} {hp : zHp}
theorem xok_l {h : Nat} {c : yC} {x : zCl} (k : yokc h c x) (e1 : c.1 = 1) (e2 : c.2.1 = 3) : ∃ f : Nat → Int64, x = .inl (3, c.2.2.1, .inr (.inl f)) := by
  obtain ⟨c1, c2, c3, c4, c5⟩ := c
  have e1 : c1 = 1 := e1
  subst e1
  have e2 : c2 = 3 := e2
  subst e2
  exact k
theorem xtl_ok (H : yH0 B) {ix n : Nat} (h : xtl ix n = true) : ix < B.1 ∧ ix < zSC ∧ ∃ f : Nat → Int64, B.2 ix = .inl (3, n, .inr (.inl f)) := by
  unfold xtl at h
  simp only [Bool.and_eq_true, decide_eq_true_eq, beq_iff_eq] at h
  obtain ⟨h1, h2, h3, h4⟩ := h
  have l1 : ix < B.1 := Nat.lt_of_lt_of_le h1 H.1
  obtain ⟨f, e⟩ := xok_l (H.2.2 ix l1) h2 h3
  rw [h4] at e
  exact ⟨l1, Nat.lt_trans h1 (by decide), f, e⟩
theorem xW_l {ix k n : Nat} {f : Nat → Int64} (e : B.2 ix = .inl (k, n, .inr (.inl f))) : (xW B s).2 ix = .inl (k, n, .inr (.inl (s.2 ix))) := by
  show xcl s ix (B.2 ix) = _
  rw [e]
  rfl
theorem q_lal {len a b ix n : Nat} {rest : List Value} {v0 : Value} {e : Int32} {v : Int64} (H : yH0 B) (hq : zg cd pc = some (.laload, len, a, b, v0)) (ht : xtl ix n = true) (hj : xib e n = true) (hv : s.2 ix e.toNatClampNeg = v) (K : zR ev d nL rt cd (pc + 1, lv, .long v :: rest) (xW B s) r) : zR ev d nL rt cd (pc, lv, .int e :: .ref ix :: rest) (xW B s) r := by
  obtain ⟨h1, h2, f, h3⟩ := xtl_ok H ht
  subst hv
  have hj := of_decide_eq_true hj
  refine r_s hq (fun call => ?_) (Nat.le_refl _) K
  show zLald (pc, lv, .int e :: .ref ix :: rest) (xW B s) = _
  unfold zLald
  dsimp only
  rw [if_pos ⟨show ix < (xW B s).1 from h1, h2⟩, xW_l h3]
  show (if ¬ (e < 0 ∨ n ≤ e.toNatClampNeg) then zn (pc + 1) lv (.long (s.2 ix e.toNatClampNeg) :: rest) (xW B s) else none) = _
  rw [if_pos hj]
  rfl
theorem xW_sl {ix k n : Nat} {f : Nat → Int64} {j : Nat} {v : Int64} (e : B.2 ix = .inl (k, n, .inr (.inl f))) : ((xW B s).1, zup (xW B s).2 ix (.inl (k, n, .inr (.inl (vp_updL (s.2 ix) j v))))) = xW B (xul s ix j v) := by
  refine Prod.ext rfl (funext fun i => ?_)
  show (if i = ix then _ else xcl s i (B.2 i)) = xcl (xul s ix j v) i (B.2 i)
  by_cases h : i = ix
  · subst h
    rw [if_pos rfl, e]
    show _ = Sum.inl (k, n, Sum.inr (Sum.inl ((xul s i j v).2 i)))
    have : vp_updL (s.2 i) j v = (xul s i j v).2 i := by
      funext m
      unfold xul vp_updL
      dsimp only
      by_cases hm : m = j
      · rw [if_pos hm, if_pos ⟨rfl, hm⟩]
      · rw [if_neg hm, if_neg (fun z => hm z.2)]
    rw [this]
  · rw [if_neg h]
    have e3 : ∀ m, (xul s ix j v).2 i m = s.2 i m := fun m => if_neg (fun z => h z.1)
    unfold xcl
    split
    · refine congrArg (fun z => Sum.inr (_, z)) (List.ext_getElem? fun m => ?_)
      rw [List.getElem?_mapIdx, List.getElem?_mapIdx]
      congr 1
      funext w
      unfold xfv
      split
      · rfl
      · rw [e3]
      · rfl
    · rfl
    · rw [show (xul s ix j v).2 i = s.2 i from funext e3]
    · rfl
theorem q_las {len a b ix n : Nat} {rest : List Value} {v0 : Value} {e : Int32} {v : Int64} {s2 : xS} (H : yH0 B) (hq : zg cd pc = some (.lastore, len, a, b, v0)) (ht : xtl ix n = true) (hj : xib e n = true) (e2 : xul s ix e.toNatClampNeg v = s2) (K : zR ev d nL rt cd (pc + 1, lv, rest) (xW B s2) r) : zR ev d nL rt cd (pc, lv, .long v :: .int e :: .ref ix :: rest) (xW B s) r := by
  obtain ⟨h1, h2, f, h3⟩ := xtl_ok H ht
  subst e2
  have hj := of_decide_eq_true hj
  refine r_s (hp' := ((xW B s).1, zup (xW B s).2 ix _)) hq (fun call => ?_) (Nat.le_refl _) (by rw [xW_sl h3]; exact K)
  show zLast (pc, lv, .long v :: .int e :: .ref ix :: rest) (xW B s) = _
  unfold zLast
  dsimp only
  rw [if_pos ⟨show ix < (xW B s).1 from h1, h2⟩, xW_l h3]
  show (if ¬ (e < 0 ∨ n ≤ e.toNatClampNeg) then zn (pc + 1) lv rest ((xW B s).1, zup (xW B s).2 ix (.inl (3, n, .inr (.inl (vp_updL (s.2 ix) e.toNatClampNeg v))))) else none) = _
  rw [if_pos hj]
  rfl
theorem q_rl {x : Int64} (hq : zg cd pc = some q) (he : ∀ call : zCa, zdo zts ev call nL (some .long) q (pc, lv, [.long x]) hp = some (.inr (some (.long x), hp))) (hR : zisR q.1 = true) : zR ev d nL (some .long) cd (pc, lv, [.long x]) hp (some (.long x), hp) := r_ret hq hR he
theorem q_sw {x k : Int32} {pc2 : Nat} (hx : (x == k) = true) (hq : zg cd pc = some q) (he : ∀ call : zCa, zdo zts ev call nL rt q (pc, lv, .int k :: st) hp = some (.inl ((pc2, lv, st), hp))) (K : zR ev d nL rt cd (pc2, lv, st) hp r) : zR ev d nL rt cd (pc, lv, .int x :: st) hp r := by
  have hx := eq_of_beq hx
  subst hx
  exact r_s hq he (Nat.le_refl _) K
theorem q_td {x : Int32} {pc2 : Nat} {dflt lo hi : Int} {offs : Array Int} (hx : x.toInt < lo ∨ hi < x.toInt) (hq : zg cd pc = some q) (he : ∀ call : zCa, zdo zts ev call nL rt q (pc, lv, .int x :: st) hp = zTab dflt lo hi offs (pc, lv, .int x :: st) hp) (hj : zJmp dflt lv st pc hp = some (.inl ((pc2, lv, st), hp))) (K : zR ev d nL rt cd (pc2, lv, st) hp r) : zR ev d nL rt cd (pc, lv, .int x :: st) hp r := by
  refine r_s hq (fun call => (he call).trans ?_) (Nat.le_refl _) K
  unfold zTab
  dsimp only
  rw [if_pos hx, hj]
theorem xne {x k : Int32} {z : Int} (hk : k.toInt = z) (c : ¬ (x == k) = true) : x.toInt ≠ z := fun e => c (by
  rw [beq_iff_eq]
  exact Int32.toInt_inj.mp (e.trans hk.symm))
end XLNG
