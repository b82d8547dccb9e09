/-! The reference's best match. -/
theorem fnd_fst {p : Nat → Bool} {i : Nat} : ∀ {n k : Nat}, (List.range' k n).find? p = some i → ∀ j, k ≤ j → j < i → p j = false
  | 0, _, h => by cases h
  | n + 1, k, h => by
    rw [List.range'_succ, List.find?_cons] at h
    intro j h1 h2
    cases e : p k with
    | true =>
      rw [e] at h
      cases h
      omega
    | false =>
      rw [e] at h
      by_cases z : j = k
      · rw [z]
        exact e
      · exact fnd_fst h j (by omega) h2
theorem bst_0 {ab : Nat → Nat → Bool} {py : Nat → Int} : ∀ (k w T : Nat), 0 ≤ bst ab py k w T
  | 0, _, _ => Int.le_refl _
  | k + 1, w, T => Int.le_trans (bst_0 k (w + 1) T) (bst_s k w T).1
section PRME
variable {s : Nat → Int32} {m : xS} {F : Nat}
theorem r256_70 (hF : 500 ≤ F) (I : vI s) {c : Nat} (hc : c < 2147483648) {v1 : Int32} : ∀ (f : Nat) {m : xS} {w : Nat}, m.1 80 = s → (w : Int) ≤ (s 3).toInt → 7 - w < f → ∃ m', D256_70 F f v1 (Int32.ofNat c) (Int32.ofNat w) m = some (m.1 70 30, m') ∧ (∀ w' : Nat, w ≤ w' → (w' : Int) < (s 3).toInt → m'.1 83 w' = Int32.ofNat (dgt ((s 2).toInt.toNat + 1) (s 3).toInt.toNat c w') - 1) ∧ (∀ w', w' < w → m'.1 83 w' = m.1 83 w') ∧ kmt m m' ∧ m'.1 70 = m.1 70 := by
  have n3 := I_nw I
  intro f
  induction f with
  | zero => intro m w _ _ l; omega
  | succ f ih =>
    intro m w es hw l
    have ew := nJ (n := w) (by omega)
    unfold D256_70
    rw [es]
    by_cases q : (s 3).toInt ≤ (w : Int)
    · exact ⟨m, oT (zc.trans (decide_eq_true (by omega))) rfl, fun w' a b => by omega, fun _ _ => rfl, kmt_r m, rfl⟩
    · have z := r254 (F := F) (m := m) hF (by rw [es]; exact I) (c := c) (w := w) (by rw [es]; omega) hc
      rw [es] at z
      obtain ⟨m', d1, d2, d3, d4, d5⟩ := ih (m := xu m 83 w (Int32.ofNat (dgt ((s 2).toInt.toNat + 1) (s 3).toInt.toNat c w) - 1)) (w := w + 1) ((xu_row (by decide)).trans es) (by omega) (by omega)
      refine ⟨m', oF (zc.trans (decide_eq_false (by omega))) (ob z ?_), fun w' a b => ?_, fun w' a => ?_, kmt_t (kmt_u (Or.inr (Or.inl rfl))) d4, d5.trans (xu_row (by decide))⟩
      · rw [if_pos (gxb ew (by omega)), gxn ew, (o1 (n := w) (by omega)).2.2]
        rw [xu_row (by decide)] at d1
        exact d1
      · by_cases y : w' = w
        · rw [y, d3 w (by omega), xu_s]
        · exact d2 w' (by omega) b
      · rw [d3 w' (by omega), xu_o (fun y => by omega)]
/-- what code c earns -/
def cE (s : Nat → Int32) (wo : Int32) (c : Nat) : Option Int := asv (abl s wo) (payI s) 0 0 (dg ((s 2).toInt.toNat + 1) (s 3).toInt.toNat c)
/-- the best of the codes below c -/
def bIv (s : Nat → Int32) (wo : Int32) (c b : Nat) (B : Int) : Prop := (∀ c', c' < c → ∀ x, cE s wo c' = some x → x ≤ B) ∧ (-1 ≤ B ∧ B ≤ 6000) ∧ ((B = -1 ∧ b = 0) ∨ (b < c ∧ cE s wo b = some B ∧ ∀ c', c' < b → ∀ x, cE s wo c' = some x → x < B))
theorem r256_14 (hF : 120000 ≤ F) (I : vI s) {v1 : Int32} {m0 : xS} (hp : ∀ w : Nat, (w : Int) < (s 3).toInt → 0 ≤ payI s w ∧ payI s w ≤ 1000) : ∀ (f : Nat) {m : xS} {c b : Nat}, jM s v1 m0 (s 2).toInt.toNat 0 m → bIv s v1 c b (m.1 70 30).toInt → c ≤ ((s 2).toInt.toNat + 1) ^ (s 3).toInt.toNat → ((s 2).toInt.toNat + 1) ^ (s 3).toInt.toNat - c < f → ∃ v m' b', D256_14 F f v1 (Int32.ofNat b) (Int32.ofNat c) m = some (v, m') ∧ bIv s v1 (((s 2).toInt.toNat + 1) ^ (s 3).toInt.toNat) b' v.toInt ∧ (∀ w' : Nat, (w' : Int) < (s 3).toInt → m'.1 83 w' = Int32.ofNat (dgt ((s 2).toInt.toNat + 1) (s 3).toInt.toNat b' w') - 1) ∧ kmt m0 m' ∧ m'.1 70 30 = v := by
  have n2 := I_nt I
  have n3 := I_nw I
  have bb := p6b (N := (s 2).toInt.toNat + 1) (k := (s 3).toInt.toNat) (by omega) (by omega)
  have e2 : s 2 = Int32.ofNat (s 2).toInt.toNat := i32n (by omega)
  have e3 : s 3 = Int32.ofNat (s 3).toInt.toNat := i32n (by omega)
  have l0 : (0 : Int32).toInt = 0 := rfl
  have lm : (-1 : Int32).toInt = -1 := rfl
  have eT : s 2 + 1 = Int32.ofNat ((s 2).toInt.toNat + 1) := by
    have y := xadd (a := (s 2).toInt.toNat) (b := 1) (by omega)
    rw [← e2] at y
    exact y
  intro f
  induction f with
  | zero => intro m c b _ _ _ l; omega
  | succ f ih =>
    intro m c b j iv hc l
    have es := j.1
    have ec := xI (a := c) (by omega)
    have eP := xI (a := ((s 2).toInt.toNat + 1) ^ (s 3).toInt.toNat) (by omega)
    have r := r235 (F := F) (m := m) (N := (s 2).toInt.toNat + 1) (k := (s 3).toInt.toNat) (v0 := s 2 + 1) (v1 := s 3) (by omega) eT e3 (by omega) (by omega) (by omega)
    have hb : b < 2147483648 := by
      rcases iv.2.2 with z | z <;> omega
    unfold D256_14
    rw [es]
    by_cases q : ((s 2).toInt.toNat + 1) ^ (s 3).toInt.toNat ≤ c
    · have e : c = ((s 2).toInt.toNat + 1) ^ (s 3).toInt.toNat := by omega
      obtain ⟨m', d1, d2, -, d4, d5⟩ := r256_70 (F := F) (by omega) I hb (v1 := v1) F (m := m) (w := 0) es (by omega) (by omega)
      rw [e] at iv
      exact ⟨_, m', b, ob r (oT (zc.trans (decide_eq_true (by dsimp only; omega))) d1), iv, fun w' h => d2 w' (Nat.zero_le _) h, kmt_t j.2.1 d4, congrFun d5 30⟩
    · obtain ⟨v, z1, z2⟩ := r255_7 (F := F) (by omega) I j hp (c := c) (by omega) F (w := 0) (T := 0) (x := 0) (by decide) (by omega) (by omega) (by omega) (by omega)
      have z1 : D255 F (Int32.ofNat c) m = some (v, m) := z1
      rw [List.drop_zero] at z2
      have z2 : match cE s v1 c with
        | some y => v.toInt = (0 : Int32).toInt + y
        | none => v = -1 := z2
      have g : zcmp .ge (Int32.ofNat c) (Int32.ofNat (((s 2).toInt.toNat + 1) ^ (s 3).toInt.toNat)) = false := zc.trans (decide_eq_false (by omega))
      have nx : ∀ {b' : Nat} {v4 : Int32} {m2 : xS}, jM s v1 m0 (s 2).toInt.toNat 0 m2 → bIv s v1 (c + 1) b' (m2.1 70 30).toInt → ∃ v m' b'', D256_62 F (D256_14 F f) v1 (Int32.ofNat b') (Int32.ofNat c) v4 m2 = some (v, m') ∧ bIv s v1 (((s 2).toInt.toNat + 1) ^ (s 3).toInt.toNat) b'' v.toInt ∧ (∀ w' : Nat, (w' : Int) < (s 3).toInt → m'.1 83 w' = Int32.ofNat (dgt ((s 2).toInt.toNat + 1) (s 3).toInt.toNat b'' w') - 1) ∧ kmt m0 m' ∧ m'.1 70 30 = v := fun {b' v4 m2} h1 h2 => by
        obtain ⟨v, m', b'', k1, k2⟩ := ih (m := m2) (c := c + 1) (b := b') h1 h2 (by omega) (by omega)
        refine ⟨v, m', b'', ?_, k2⟩
        unfold D256_62
        rw [show Int32.ofNat c + Int32.ofInt 1 = Int32.ofNat (c + 1) from xadd (a := c) (b := 1) (by omega)]
        exact k1
      by_cases w : (m.1 70 30).toInt < v.toInt
      · have e : cE s v1 c = some v.toInt := by
          cases y : cE s v1 c with
          | none =>
            rw [y] at z2
            have z2 : v = -1 := z2
            rw [z2, lm] at w
            have := iv.2.1
            omega
          | some x =>
            rw [y] at z2
            have z2 : v.toInt = (0 : Int32).toInt + x := z2
            rw [z2, l0, Int.zero_add]
        have up : v.toInt ≤ 6000 := by
          have q := asv_le (ab := abl s v1) (py := payI s) (n := (s 2).toInt.toNat) (by omega) (k := (s 3).toInt.toNat) (w := 0) (T := 0) dg_len (dg_lt (by omega)) e
          have ub : ∀ k w T, w + k ≤ (s 3).toInt.toNat → bst (abl s v1) (payI s) k w T ≤ 1000 * (k : Int) := fun k => by
            induction k with
            | zero => exact fun w T _ => Int.le_refl _
            | succ k ihk =>
              intro w T hw
              obtain ⟨-, -, cc⟩ := bst_s (ab := abl s v1) (py := payI s) k w T
              have pw := hp w (by omega)
              rcases cc with cc | ⟨u, -, -, cc⟩
              · have := ihk (w + 1) T (by omega)
                omega
              · have := ihk (w + 1) (T ||| 2 ^ u) (by omega)
                omega
          have := ub (s 3).toInt.toNat 0 0 (by omega)
          omega
        obtain ⟨v', m', b'', d1, d2⟩ := nx (b' := c) (v4 := v) (m2 := xu m 70 30 v) ⟨(xu_row (by decide)).trans es, kmt_t j.2.1 (kmt_u (Or.inr (Or.inr ⟨rfl, Or.inr rfl⟩))), fun t' w' h => by rw [xu_row (by decide)]; exact j.2.2 t' w' h⟩ (by
          rw [xu_s]
          refine ⟨fun c' h x hx => ?_, ⟨by have := iv.2.1; omega, up⟩, Or.inr ⟨by omega, e, fun c' h x hx => ?_⟩⟩
          · by_cases y : c' = c
            · rw [y, e] at hx
              have := Option.some.inj hx
              omega
            · have := iv.1 c' (by omega) x hx
              omega
          · have := iv.1 c' (by omega) x hx
            omega)
        refine ⟨v', m', b'', ob r (oF g (ob z1 (oT (zcgt.trans (decide_eq_true (by dsimp only; omega))) d1))), d2⟩
      · obtain ⟨v', m', b'', d1, d2⟩ := nx (b' := b) (v4 := v) (m2 := m) j (by
          refine ⟨fun c' h x hx => ?_, iv.2.1, ?_⟩
          · by_cases y : c' = c
            · rw [y] at hx
              rw [hx] at z2
              have z2 : v.toInt = (0 : Int32).toInt + x := z2
              omega
            · exact iv.1 c' (by omega) x hx
          · rcases iv.2.2 with z | ⟨y1, y2⟩
            · exact Or.inl z
            · exact Or.inr ⟨by omega, y2⟩)
        exact ⟨v', m', b'', ob r (oF g (ob z1 (oF (zcgt.trans (decide_eq_false (by dsimp only; omega))) d1))), d2⟩
/-- the most, and the first that earns it -/
theorem r256 (hF : 120000 ≤ F) (I : vI s) {v1 : Int32} (hp : ∀ w : Nat, (w : Int) < (s 3).toInt → 0 ≤ payI s w ∧ payI s w ≤ 1000) (es : m.1 80 = s) : ∃ v m', D256 F v1 m = some (v, m') ∧ v.toInt = bst (abl s v1) (payI s) (s 3).toInt.toNat 0 0 ∧ (∀ w : Nat, (w : Int) < (s 3).toInt → m'.1 83 w = Int32.ofNat ((gro (abl s v1) (payI s) (s 2).toInt.toNat (s 3).toInt.toNat 0 0).getD w 0) - 1) ∧ kmt m m' ∧ m'.1 70 30 = v := by
  have n2 := I_nt I
  have n3 := I_nw I
  have lm : (-1 : Int32).toInt = -1 := rfl
  have bb := p6b (N := (s 2).toInt.toNat + 1) (k := (s 3).toInt.toNat) (by omega) (by omega)
  have hab : ∀ w t, abl s v1 w t = true → t < (s 2).toInt.toNat := fun w t h => by
    unfold abl at h
    rw [Bool.and_eq_true, decide_eq_true_eq] at h
    omega
  obtain ⟨⟨u, m1⟩, e1, j⟩ := P253x (F := F) (v1 := v1) hF I es
  have j : jM s v1 m (s 2).toInt.toNat 0 m1 := j
  obtain ⟨v, m', b, d1, d2, d3, d4, d5⟩ := r256_14 (F := F) (v1 := v1) (m0 := m) hF I hp F (m := xu m1 70 30 (-1)) (c := 0) (b := 0) ⟨(xu_row (by decide)).trans j.1, kmt_t j.2.1 (kmt_u (Or.inr (Or.inr ⟨rfl, Or.inr rfl⟩))), fun t' w' h => by rw [xu_row (by decide)]; exact j.2.2 t' w' h⟩ (by rw [xu_s, lm]; exact ⟨fun c' h => by omega, by omega, Or.inl ⟨rfl, rfl⟩⟩) (Nat.zero_le _) (by omega)
  have gf := gro_ff (ab := abl s v1) (py := payI s) (n := (s 2).toInt.toNat) (by omega) hab (k := (s 3).toInt.toNat) (w := 0) (T := 0)
  rw [ff_code] at gf
  generalize hB : bst (abl s v1) (payI s) (s 3).toInt.toNat 0 0 = B at *
  have b0 : 0 ≤ B := by rw [← hB]; exact bst_0 _ _ _
  cases y : (List.range (((s 2).toInt.toNat + 1) ^ (s 3).toInt.toNat)).find? (fun c => asv (abl s v1) (payI s) 0 0 (dg ((s 2).toInt.toNat + 1) (s 3).toInt.toNat c) == some B) with
  | none =>
    rw [y] at gf
    cases gf
  | some k =>
    rw [y] at gf
    have gk : dg ((s 2).toInt.toNat + 1) (s 3).toInt.toNat k = gro (abl s v1) (payI s) (s 2).toInt.toNat (s 3).toInt.toNat 0 0 := Option.some.inj gf
    have k1 := List.mem_range.mp (List.mem_of_find?_eq_some y)
    have k2 : cE s v1 k = some B := by
      have q := List.find?_some y
      exact eq_of_beq q
    have k3 : ∀ c, c < k → ¬ cE s v1 c = some B := fun c hc z => by
      rw [List.range_eq_range'] at y
      have f := fnd_fst y c (Nat.zero_le _) hc
      rw [show asv (abl s v1) (payI s) 0 0 (dg ((s 2).toInt.toNat + 1) (s 3).toInt.toNat c) = some B from z, beq_self_eq_true] at f
      cases f
    obtain ⟨i1, i2, i3⟩ := d2
    have ge := i1 k k1 B k2
    rcases i3 with ⟨z, -⟩ | ⟨b1, b2, b3⟩
    · omega
    · have le := asv_le (ab := abl s v1) (py := payI s) (n := (s 2).toInt.toNat) (by omega) (k := (s 3).toInt.toNat) (w := 0) (T := 0) dg_len (dg_lt (by omega)) b2
      rw [hB] at le
      have eB : v.toInt = B := by omega
      have ek : b = k := by
        rcases Nat.lt_trichotomy b k with h | h | h
        · rw [eB] at b2
          exact absurd b2 (k3 b h)
        · exact h
        · have := b3 k h B k2
          omega
      subst ek
      refine ⟨v, m', ?_, eB, fun w hw => ?_, d4, d5⟩
      · unfold D256
        exact ob e1 d1
      · rw [d3 w hw, ← gk, dg_getD (by omega)]
end PRME
