/-! Rules for printed bodies: locals by what they hold, rows by any place within. -/
def xib (e : Int32) (n : Nat) : Bool := decide (¬ (e < 0 ∨ n ≤ e.toNatClampNeg))
def xbo (x : Int32) : Bool := x == 0 || x == 1
theorem xbo_ok {x : Int32} (h : xbo x = true) : narrow .boolean (.int x) = .int x := by
  unfold xbo at h
  simp only [Bool.or_eq_true, beq_iff_eq] at h
  rcases h with rfl | rfl <;> rfl
theorem xif {α : Type} {c : Bool} {x : Option α} {r : α} (h : (if c = true then x else none) = some r) : c = true ∧ x = some r := by
  split at h
  · next hc => exact ⟨hc, h⟩
  · cases h
theorem xbind {α β : Type} {o : Option α} {f : α → Option β} {r : β} (h : o.bind f = some r) : ∃ q, o = some q ∧ f q = some r := by
  cases o with
  | none => cases h
  | some q => exact ⟨q, rfl, h⟩
section XRUL
variable {B : zHp} {s : xS} {ev : zEv} {d nL : Nat} {rt : Option FieldType} {cd : List (Option zEn)} {r : zRe} {q : zEn} {pc : Nat} {lv : List (Nat × Value)} {st : List Value} {hp : zHp}
theorem q_li {k i : Nat} {x : Int32} (hq : zg cd pc = some q) (he : ∀ call : zCa, zdo zts ev call nL rt q (pc, lv, st) hp = zLoadI k i (pc, lv, st) hp) (hl : zld lv i = some (.int x)) (K : zR ev d nL rt cd (pc + k, lv, .int x :: st) hp r) : zR ev d nL rt cd (pc, lv, st) hp r := by
  refine r_s hq (fun call => (he call).trans ?_) (Nat.le_refl _) K
  unfold zLoadI zn
  dsimp only
  rw [hl]
theorem q_ll {k i : Nat} {x : Int64} (hq : zg cd pc = some q) (he : ∀ call : zCa, zdo zts ev call nL rt q (pc, lv, st) hp = zLoadL k i (pc, lv, st) hp) (hl : zld lv i = some (.long x)) (K : zR ev d nL rt cd (pc + k, lv, .long x :: st) hp r) : zR ev d nL rt cd (pc, lv, st) hp r := by
  refine r_s hq (fun call => (he call).trans ?_) (Nat.le_refl _) K
  unfold zLoadL zn
  dsimp only
  rw [hl]
theorem q_lr {k i : Nat} {x : Nat} (hq : zg cd pc = some q) (he : ∀ call : zCa, zdo zts ev call nL rt q (pc, lv, st) hp = zLoadA k i (pc, lv, st) hp) (hl : zld lv i = some (.ref x)) (K : zR ev d nL rt cd (pc + k, lv, .ref x :: st) hp r) : zR ev d nL rt cd (pc, lv, st) hp r := by
  refine r_s hq (fun call => (he call).trans ?_) (Nat.le_refl _) K
  unfold zLoadA zn
  dsimp only
  rw [hl]
theorem q_si {k i : Nat} {x : Int32} (hq : zg cd pc = some q) (he : ∀ call : zCa, zdo zts ev call nL rt q (pc, lv, .int x :: st) hp = zStoI k i nL (pc, lv, .int x :: st) hp) (hi : i < nL) (K : zR ev d nL rt cd (pc + k, zs1 lv i (.int x), st) hp r) : zR ev d nL rt cd (pc, lv, .int x :: st) hp r := by
  refine r_s hq (fun call => (he call).trans ?_) (Nat.le_refl _) K
  unfold zStoI zn
  dsimp only
  rw [if_pos hi]
theorem q_sl {k i : Nat} {x : Int64} (hq : zg cd pc = some q) (he : ∀ call : zCa, zdo zts ev call nL rt q (pc, lv, .long x :: st) hp = zStoL k i nL (pc, lv, .long x :: st) hp) (hi : i + 1 < nL) (K : zR ev d nL rt cd (pc + k, zs2 lv i (.long x), st) hp r) : zR ev d nL rt cd (pc, lv, .long x :: st) hp r := by
  refine r_s hq (fun call => (he call).trans ?_) (Nat.le_refl _) K
  unfold zStoL zn
  dsimp only
  rw [if_pos hi]
theorem q_sr {k i x : Nat} (hq : zg cd pc = some q) (he : ∀ call : zCa, zdo zts ev call nL rt q (pc, lv, .ref x :: st) hp = zStoA k i nL (pc, lv, .ref x :: st) hp) (hi : i < nL) (K : zR ev d nL rt cd (pc + k, zs1 lv i (.ref x), st) hp r) : zR ev d nL rt cd (pc, lv, .ref x :: st) hp r := by
  refine r_s hq (fun call => (he call).trans ?_) (Nat.le_refl _) K
  unfold zStoA zn
  dsimp only
  rw [if_pos hi]
theorem q_inc {i : Nat} {n : Int} {x : Int32} (hq : zg cd pc = some q) (he : ∀ call : zCa, zdo zts ev call nL rt q (pc, lv, st) hp = zInc i n nL (pc, lv, st) hp) (hl : zld lv i = some (.int x)) (hi : i < nL) (K : zR ev d nL rt cd (pc + 3, zs1 lv i (.int (x + Int32.ofInt n)), st) hp r) : zR ev d nL rt cd (pc, lv, st) hp r := by
  refine r_s hq (fun call => (he call).trans ?_) (Nat.le_refl _) K
  unfold zInc zn
  dsimp only
  rw [hl]
  dsimp only
  rw [if_pos hi]
theorem q_div {f : Int32 → Int32 → Int32} {x y : Int32} (hq : zg cd pc = some q) (he : ∀ call : zCa, zdo zts ev call nL rt q (pc, lv, .int y :: .int x :: st) hp = zBinD f (pc, lv, .int y :: .int x :: st) hp) (hy : (!(y == 0)) = true) (K : zR ev d nL rt cd (pc + 1, lv, .int (f x y) :: st) hp r) : zR ev d nL rt cd (pc, lv, .int y :: .int x :: st) hp r := by
  refine r_s hq (fun call => (he call).trans ?_) (Nat.le_refl _) K
  unfold zBinD zn
  dsimp only
  rw [if_neg (by simpa using hy)]
theorem q_ldiv {f : Int64 → Int64 → Int64} {x y : Int64} (hq : zg cd pc = some q) (he : ∀ call : zCa, zdo zts ev call nL rt q (pc, lv, .long y :: .long x :: st) hp = zBnlD f (pc, lv, .long y :: .long x :: st) hp) (hy : (!(y == 0)) = true) (K : zR ev d nL rt cd (pc + 1, lv, .long (f x y) :: st) hp r) : zR ev d nL rt cd (pc, lv, .long y :: .long x :: st) hp r := by
  refine r_s hq (fun call => (he call).trans ?_) (Nat.le_refl _) K
  unfold zBnlD zn
  dsimp only
  rw [if_neg (by simpa using hy)]
theorem q_al {len a b ix n : Nat} {rest : List Value} {v0 : Value} {e v : Int32} (H : yH0 B) (hq : zg cd pc = some (.iaload, len, a, b, v0)) (ht : xta ix 0 n = true) (hj : xib e n = true) (hv : s.1 ix e.toNatClampNeg = v) (K : zR ev d nL rt cd (pc + 1, lv, .int v :: rest) (xW B s) r) : zR ev d nL rt cd (pc, lv, .int e :: .ref ix :: rest) (xW B s) r := by
  obtain ⟨h1, h2, -, f, h3⟩ := xta_ok H ht
  exact r_iald hq ⟨h2, h1⟩ (xW_a h3) (of_decide_eq_true hj) hv K
theorem q_bl {len a b ix k n : Nat} {rest : List Value} {v0 : Value} {e v : Int32} (H : yH0 B) (hq : zg cd pc = some (.baload, len, a, b, v0)) (ht : xta ix k n = true) (hk : k ≠ 0) (hj : xib e n = true) (hv : s.1 ix e.toNatClampNeg = v) (K : zR ev d nL rt cd (pc + 1, lv, .int v :: rest) (xW B s) r) : zR ev d nL rt cd (pc, lv, .int e :: .ref ix :: rest) (xW B s) r := by
  obtain ⟨h1, h2, h5, f, h3⟩ := xta_ok H ht
  subst hv
  have hj := of_decide_eq_true hj
  have k3 : k = 1 ∨ k = 2 := by omega
  refine r_s hq (fun call => ?_) (Nat.le_refl _) K
  show zBald ztb ev (pc, lv, .int e :: .ref ix :: rest) (xW B s) = _
  unfold zBald
  dsimp only
  rw [if_pos h2, if_pos (show ix < (xW B s).1 from h1), xW_a h3]
  rcases k3 with rfl | rfl
  · show (if ¬ (e < 0 ∨ n ≤ e.toNatClampNeg) then zn (pc + 1) lv (.int (s.1 ix e.toNatClampNeg) :: rest) (xW B s) else none) = _
    rw [if_pos hj]
    rfl
  · show (if ¬ (e < 0 ∨ n ≤ e.toNatClampNeg) then zn (pc + 1) lv (.int (s.1 ix e.toNatClampNeg) :: rest) (xW B s) else none) = _
    rw [if_pos hj]
    rfl
theorem q_as {len a b ix n : Nat} {rest : List Value} {v0 : Value} {e v : Int32} {s2 : xS} (H : yH0 B) (hq : zg cd pc = some (.iastore, len, a, b, v0)) (ht : xta ix 0 n = true) (hj : xib e n = true) (e2 : xu s ix e.toNatClampNeg v = s2) (K : zR ev d nL rt cd (pc + 1, lv, rest) (xW B s2) r) : zR ev d nL rt cd (pc, lv, .int v :: .int e :: .ref ix :: rest) (xW B s) r := by
  obtain ⟨h1, h2, -, f, h3⟩ := xta_ok H ht
  subst e2
  refine r_iast hq ⟨h1, h2⟩ (xW_a h3) (of_decide_eq_true hj) ?_
  rw [xW_st h3]
  exact K
theorem q_bs {len a b ix n : Nat} {rest : List Value} {v0 : Value} {e v : Int32} {s2 : xS} (H : yH0 B) (hq : zg cd pc = some (.bastore, len, a, b, v0)) (ht : xta ix 1 n = true) (hj : xib e n = true) (e2 : xu s ix e.toNatClampNeg (vp_nar .byte v) = s2) (K : zR ev d nL rt cd (pc + 1, lv, rest) (xW B s2) r) : zR ev d nL rt cd (pc, lv, .int v :: .int e :: .ref ix :: rest) (xW B s) r := by
  obtain ⟨h1, h2, -, f, h3⟩ := xta_ok H ht
  subst e2
  refine r_bast hq ⟨h1, h2⟩ (xW_a h3) (of_decide_eq_true hj) ?_
  rw [xW_st h3]
  exact K
theorem q_ri {x : Int32} {ty : FieldType} (hq : zg cd pc = some q) (he : ∀ call : zCa, zdo zts ev call nL (some ty) q (pc, lv, [.int x]) hp = zIret (some ty) (pc, lv, [.int x]) hp) (hR : zisR q.1 = true) (hn : narrow ty (.int x) = .int x) : zR ev d nL (some ty) cd (pc, lv, [.int x]) hp (some (.int x), hp) := by
  refine r_ret hq hR (fun call => (he call).trans ?_)
  unfold zIret
  dsimp only
  rw [if_pos hn]
theorem x_o1 {l : List (Nat × Value)} {i j : Nat} {v u : Value} (h : zld l j = some u) (h1 : (j == i) = false) (h2 : (u.category == 2 && j + 1 == i) = false) : zld (zs1 l i v) j = some u := zs1_ot h (by simpa using h1) (fun z => by simp [z.1, z.2] at h2)
theorem x_o2 {l : List (Nat × Value)} {i j : Nat} {v u : Value} (h : zld l j = some u) (h1 : (j == i) = false) (h2 : (u.category == 2 && j + 1 == i) = false) (h3 : (j == i + 1) = false) : zld (zs2 l i v) j = some u := zs2_ot h (by simpa using h1) (fun z => by simp [z.1, z.2] at h2) (by simpa using h3)
end XRUL
