/-! From the printed functions to specs. -/
def xint (w : Option Value) : Int32 := match w with
  | some (.int x) => x
  | _ => 0
theorem xof_rd (hp : zHp) (i j : Nat) : (xof hp).1 i j = xint (yrd hp i (j : Int)) := by
  unfold xof yrd xint
  dsimp only
  cases hp.2 i with
  | inr q =>
    obtain ⟨c, fs⟩ := q
    dsimp only
    rw [if_neg (by omega), Int.toNat_natCast]
    rfl
  | inl q =>
    obtain ⟨k, n, x⟩ := q
    dsimp only
    rw [if_neg (by omega)]
    rcases x with f | f | f | f | f
    · rw [Int.toNat_natCast]
    · rfl
    · rfl
    · rfl
    · dsimp only
      cases f (j : Int).toNat with
      | none => rfl
      | some y => rfl
theorem xok_a {h : Nat} {c : yC} {x : zCl} (k : yokc h c x) (e1 : c.1 = 1) (e2 : c.2.1 < 3) : ∃ f : Nat → Int32, x = .inl (c.2.1, c.2.2.1, .inl f) ∧ ∀ j, j < c.2.2.1 → (yel c.2.2.2.1 j).1 ≤ (f j).toInt ∧ (f j).toInt ≤ (yel c.2.2.2.1 j).2 := by
  obtain ⟨c1, c2, c3, c4, c5⟩ := c
  have e1 : c1 = 1 := e1
  subst e1
  have e2 : c2 < 3 := e2
  match c2, e2, k with
  | 0, _, k =>
    obtain ⟨-, f, e, b⟩ := k
    exact ⟨f, e, b⟩
  | 1, _, k =>
    obtain ⟨-, f, e, b⟩ := k
    exact ⟨f, e, b⟩
  | 2, _, k =>
    obtain ⟨-, f, e, b⟩ := k
    exact ⟨f, e, b⟩
theorem xT_of {B : zHp} (H : yH0 B) : xT (xof B) := by
  intro i j p hp
  unfold xbn at hp
  split at hp
  · next h88 =>
    have c := H.2.2 i (Nat.lt_of_lt_of_le h88 H.1)
    split at hp
    · next e0 =>
      unfold yokc at c
      rw [e0] at c
      obtain ⟨fs, e1, -, e3⟩ := c
      split at hp
      · next t ht =>
        obtain ⟨v, v1, v2⟩ := e3 j t ht
        split at hp
        · next t0 =>
          cases hp
          unfold yft at v2
          rw [t0] at v2
          obtain ⟨x, rfl, b⟩ := v2
          have : (xof B).1 i j = x := by
            unfold xof
            dsimp only
            rw [e1]
            dsimp only
            rw [v1]
          rw [this]
          exact b
        · cases hp
      · cases hp
    · next e1 =>
      split at hp
      · next hk =>
        cases hp
        obtain ⟨f, e, b⟩ := xok_a c e1 hk.1
        have : (xof B).1 i j = f j := by
          unfold xof
          dsimp only
          rw [e]
        rw [this]
        exact b j hk.2
      · cases hp
    · cases hp
  · cases hp
theorem xH {B : zHp} (H : yH0 B) {m : xS} (hT : xT m) (hL : ∀ i j, i ≠ 78 → m.2 i j = (xof B).2 i j) : yH0 (xW B m) := by
  refine ⟨H.1, H.2.1, fun i hi => ?_⟩
  have hi : i < B.1 := hi
  have c := H.2.2 i hi
  show yokc B.1 (yty i) (xcl m i (B.2 i))
  unfold yokc at c ⊢
  split at c
  · next e0 =>
    obtain ⟨fs, e1, e2, e3⟩ := c
    rw [e1]
    refine ⟨fs.mapIdx (xfv m i), rfl, by rw [List.length_mapIdx]; exact e2, fun j t ht => ?_⟩
    obtain ⟨v, v1, v2⟩ := e3 j t ht
    refine ⟨xfv m i j v, by rw [List.getElem?_mapIdx, v1]; rfl, ?_⟩
    unfold yft at v2 ⊢
    split at v2
    · next t0 =>
      obtain ⟨x, rfl, b⟩ := v2
      refine ⟨m.1 i j, rfl, ?_⟩
      by_cases h88 : i < 88
      · refine hT i j t.2 ?_
        unfold xbn
        rw [if_pos h88, e0]
        show (match (yty i).2.2.2.2[j]? with
          | some t => if t.1 = 0 then some t.2 else none
          | none => none) = _
        rw [ht]
        exact if_pos t0
      · exfalso
        unfold yty at ht e0
        rw [if_neg h88] at ht e0
        split at ht
        · match j, ht with
          | 0, ht => cases ht; cases t0
          | 1, ht => cases ht; cases t0
          | j + 2, ht => cases ht
        · cases ht
        · cases ht
    · next t1 =>
      obtain ⟨x, rfl, b⟩ := v2
      have hne : i ≠ 78 := fun z => by
        subst z
        exact absurd e0 (by decide)
      have : m.2 i j = x := by
        rw [hL i j hne]
        unfold xof
        dsimp only
        rw [e1]
        dsimp only
        rw [v1]
      refine ⟨m.2 i j, rfl, ?_⟩
      rw [this]
      exact b
    · obtain ⟨k, rfl, b⟩ := v2
      exact ⟨k, rfl, b⟩
  · next e1 =>
    split at c
    · obtain ⟨f, e⟩ := c
      rw [e]
      exact ⟨m.2 i, rfl⟩
    · obtain ⟨f, e, b⟩ := c
      rw [e]
      exact ⟨f, rfl, b⟩
    · obtain ⟨f, e, b⟩ := c
      rw [e]
      exact ⟨f, rfl, b⟩
    · obtain ⟨k3, f, e, b⟩ := c
      rw [e]
      refine ⟨k3, m.1 i, rfl, fun j hj => ?_⟩
      have h88 : i < 88 := by
        by_cases h : i < 88
        · exact h
        · exfalso
          obtain ⟨k, hk⟩ : ∃ k, i = 88 + 3 * k ∨ i = 89 + 3 * k ∨ i = 90 + 3 * k := ⟨(i - 88) / 3, by omega⟩
          rcases hk with hk | hk | hk
          · rw [hk, yty_r0] at e1
            cases e1
          · rw [hk, yty_r1] at e1
            cases e1
          · rw [hk, yty_r2] at k3
            exact absurd k3 (by decide)
      exact hT i j _ (by
        unfold xbn
        rw [if_pos h88, e1]
        exact if_pos ⟨k3, hj⟩)
  · obtain ⟨n, f, hn, e⟩ := c
    rw [e]
    exact ⟨n, m.1 i, hn, rfl⟩
theorem xF {B : zHp} {M : yM} {m : xS} (h1 : ∀ i j : Nat, yinM M i (j : Int) = false → m.1 i j = (xof B).1 i j) (h2 : ∀ i j : Nat, yinM M i (j : Int) = false → m.2 i j = (xof B).2 i j) : yF M B (xW B m) := by
  refine ⟨Nat.le_refl _, fun _ => rfl, fun i j hj => ?_⟩
  unfold yrd
  show (match xcl m i (B.2 i) with
  | .inr (_, fs) => if j < 0 then none else fs[j.toNat]?
  | .inl (_, n, x) => if j < 0 then (if i < B.1 then some (Value.int (Int32.ofNat n)) else none) else match x with
    | .inl f => some (Value.int (f j.toNat))
    | .inr (.inl f) => some (Value.long (f j.toNat))
    | .inr (.inr (.inr (.inr f))) => some (va_rf (f j.toNat))
    | _ => none) = _
  have key : ¬ j < 0 → m.1 i j.toNat = (xof B).1 i j.toNat ∧ m.2 i j.toNat = (xof B).2 i j.toNat := fun h => by
    have e : ((j.toNat : Nat) : Int) = j := by omega
    have q := hj.resolve_left (fun z => h z.1)
    exact ⟨h1 i j.toNat (by rw [e]; exact q), h2 i j.toNat (by rw [e]; exact q)⟩
  unfold xcl
  cases hb : B.2 i with
  | inr q =>
    obtain ⟨c, fs⟩ := q
    dsimp only
    by_cases h : j < 0
    · rw [if_pos h, if_pos h]
    · rw [if_neg h, if_neg h, List.getElem?_mapIdx]
      obtain ⟨k1, k2⟩ := key h
      cases hf : fs[j.toNat]? with
      | none => rfl
      | some v =>
        show some (xfv m i j.toNat v) = some v
        unfold xfv
        split
        · next x =>
          rw [k1]
          unfold xof
          dsimp only
          rw [hb]
          dsimp only
          rw [hf]
        · next x =>
          rw [k2]
          unfold xof
          dsimp only
          rw [hb]
          dsimp only
          rw [hf]
        · rfl
  | inl q =>
    obtain ⟨c, n, x⟩ := q
    by_cases h : j < 0
    · rcases x with f | f | f | f | f <;> first | (dsimp only; done) | (dsimp only; simp only [if_pos h])
    · obtain ⟨k1, k2⟩ := key h
      rcases x with f | f | f | f | f
      · dsimp only
        rw [if_neg h, if_neg h, k1]
        unfold xof
        dsimp only
        rw [hb]
      · dsimp only
        rw [if_neg h, if_neg h, k2]
        unfold xof
        dsimp only
        rw [hb]
      · rfl
      · rfl
      · rfl
/-- the codes of the reference's rules, and room -/
def yAr (hp : zHp) : Prop := xA (xof hp) ∧ (hp.1 : Int) = 88 + 3 * ((xof hp).1 0 8).toInt
theorem yAr_F : yEF yAr yFA := by
  intro a b h e f
  have k : ∀ i j : Nat, yinM yFA i (j : Int) = true → (xof b).1 i j = (xof a).1 i j := fun i j hj => by
    rw [xof_rd, xof_rd, f i j hj]
  have e2 : (xof b).1 72 = (xof a).1 72 := funext fun j => k 72 j rfl
  have e4 : (xof b).1 74 = (xof a).1 74 := funext fun j => k 74 j rfl
  have e5 : (xof b).1 75 = (xof a).1 75 := funext fun j => k 75 j rfl
  refine ⟨?_, ?_⟩
  · unfold xA wfc wfs
    rw [e2, e4, e5]
    exact h.1
  · rw [k 0 8 rfl, e]
    exact h.2
theorem xof_W (B : zHp) (m : xS) (i j : Nat) : (∃ x, yrd (xW B m) i (j : Int) = some (.int x)) → (xof (xW B m)).1 i j = m.1 i j := by
  intro ⟨x, hx⟩
  rw [xof_rd, hx]
  show x = m.1 i j
  have hx : yrd (xW B m) i (j : Int) = some (.int x) := hx
  unfold yrd at hx
  have e : (xW B m).2 i = xcl m i (B.2 i) := rfl
  rw [e] at hx
  unfold xcl at hx
  cases hb : B.2 i with
  | inr q =>
    obtain ⟨c, fs⟩ := q
    rw [hb] at hx
    dsimp only at hx
    rw [if_neg (by omega), Int.toNat_natCast, List.getElem?_mapIdx] at hx
    cases hf : fs[j]? with
    | none => rw [hf] at hx; cases hx
    | some v =>
      rw [hf] at hx
      have hx : xfv m i j v = .int x := Option.some.inj hx
      unfold xfv at hx
      split at hx
      · exact (Value.int.inj hx).symm
      · cases hx
      · next n1 n2 => exact absurd hx (n1 x)
  | inl q =>
    obtain ⟨c, n, y⟩ := q
    rw [hb] at hx
    rcases y with f | f | f | f | f
    · dsimp only at hx
      rw [if_neg (by omega), Int.toNat_natCast] at hx
      exact (Value.int.inj (Option.some.inj hx)).symm
    · dsimp only at hx
      rw [if_neg (by omega)] at hx
      cases hx
    · dsimp only at hx
      rw [if_neg (by omega)] at hx
      cases hx
    · dsimp only at hx
      rw [if_neg (by omega)] at hx
      cases hx
    · dsimp only at hx
      rw [if_neg (by omega)] at hx
      have hx := Option.some.inj hx
      cases hz : f (j : Int).toNat with
      | none => rw [hz] at hx; cases hx
      | some y => rw [hz] at hx; cases hx
