/-! A rule's clauses reckoned by the reference, exactly. -/
/-- how deep the stack is behind codes -/
def ldp : List Int32 → Nat → Option Nat
  | [], k => some k
  | c :: cs, k => (zst c k).bind (ldp cs)
abbrev cLs : Type := List (List Int32 × Option (List Int32))
/-- codes that leave one value -/
def cwf (S : List Int32) : Prop := ldp S 0 = some 1 ∧ ∀ c ∈ S, 0 ≤ c.toInt
def ev (w : Nat → Int64) (S : List Int32) : Int64 := match erun w S [] with
  | some (v :: _) => v
  | _ => 0
/-- what a rule's clauses come to -/
def sumE (w : Nat → Int64) : cLs → Int64
  | [] => 0
  | (S, none) :: cs => ev w S
  | (S, some T) :: cs => if ev w T = 1 then ev w S else sumE w cs
/-- codes stand in the row from a on -/
def cAt (m : xS) (t a : Nat) (S : List Int32) : Prop := a + S.length ≤ 400 ∧ ∀ (j : Nat) (c : Int32), S[j]? = some c → m.1 72 (400 * t + (a + j)) = c
/-- a clause stands at place i -/
def kAt (m : xS) (t i : Nat) (q : List Int32 × Option (List Int32)) : Prop := (∃ a, m.1 74 (48 * t + 4 * i) = Int32.ofNat a ∧ m.1 74 (48 * t + 4 * i + 1) = Int32.ofNat (a + q.1.length) ∧ cAt m t a q.1 ∧ cwf q.1) ∧ (match q.2 with
  | none => (m.1 74 (48 * t + 4 * i + 2)).toInt < 0
  | some T => ∃ a, m.1 74 (48 * t + 4 * i + 2) = Int32.ofNat a ∧ m.1 74 (48 * t + 4 * i + 3) = Int32.ofNat (a + T.length) ∧ cAt m t a T ∧ cwf T)
def cAll (m : xS) (t : Nat) (cs : cLs) : Prop := m.1 75 t = Int32.ofNat cs.length ∧ cs.length ≤ 12 ∧ ∀ i q, cs[i]? = some q → kAt m t i q
section PSUM
variable {m : xS} {F : Nat}
theorem zst_e {w : Nat → Int64} {c : Int32} {st : List Int64} {k : Nat} (h : zst c st.length = some k) : (∃ st', est w c st = some st' ∧ st'.length = k) ∧ k ≤ 64 + st.length ∧ (st.length ≤ 64 → k ≤ 64) ∧ (c.toInt % 16 = 1 → 0 ≤ c.toInt / 16 ∧ c.toInt / 16 ≤ 12) := by
  have h : zs0 c st.length = some k := by
    unfold zst at h
    split at h
    · exact h
    · cases h
  unfold zs0 at h
  unfold est
  by_cases k0 : c.toInt % 16 = 0
  · rw [if_pos k0] at h ⊢
    split at h
    · cases h
      exact ⟨⟨_, rfl, rfl⟩, by omega, fun _ => by omega, fun z => by omega⟩
    · cases h
  rw [if_neg k0] at h ⊢
  by_cases k1 : c.toInt % 16 = 1
  · rw [if_pos k1] at h ⊢
    split at h
    · next z =>
      cases h
      exact ⟨⟨_, rfl, rfl⟩, by omega, fun _ => by omega, fun _ => ⟨z.1, z.2.1⟩⟩
    · cases h
  rw [if_neg k1] at h ⊢
  by_cases k11 : c.toInt % 16 = 11
  · rw [if_pos k11] at h ⊢
    split at h
    · cases h
      cases st with
      | nil => next z => exact absurd z (by decide)
      | cons x st => exact ⟨⟨_, rfl, rfl⟩, by omega, fun z => z, fun z => absurd z k1⟩
    · cases h
  rw [if_neg k11] at h ⊢
  split at h
  · next z =>
    cases h
    cases st with
    | nil => exact absurd z (by decide)
    | cons y st =>
      cases st with
      | nil =>
        have z : 2 ≤ 1 := z
        omega
      | cons x st =>
        refine ⟨⟨_, rfl, ?_⟩, ?_, fun z => ?_, fun z => absurd z k1⟩
        · rw [List.length_cons, List.length_cons, List.length_cons]
          omega
        · omega
        · omega
  · cases h
theorem ldp_e {w : Nat → Int64} : ∀ {S : List Int32} {st : List Int64} {D : Nat}, ldp S st.length = some D → st.length ≤ 64 → (∃ st', erun w S st = some st' ∧ st'.length = D) ∧ (∀ i, i ≤ S.length → ∀ st', erun w (S.take i) st = some st' → st'.length ≤ 64) ∧ ∀ c ∈ S, c.toInt % 16 = 1 → c.toInt / 16 ≤ 12
  | [], st, D, h, l => by
    have h : st.length = D := Option.some.inj h
    refine ⟨⟨st, rfl, h⟩, fun i hi st' hs => ?_, fun c hc => by cases hc⟩
    rw [List.take_nil] at hs
    have hs : st = st' := Option.some.inj hs
    rw [← hs]
    exact l
  | c :: S, st, D, h, l => by
    have h : (zst c st.length).bind (ldp S) = some D := h
    obtain ⟨k, h1, h2⟩ := Option.bind_eq_some_iff.mp h
    obtain ⟨⟨st1, e1, e2⟩, -, e3, e4⟩ := zst_e (w := w) h1
    obtain ⟨⟨st2, f1, f2⟩, f3, f4⟩ := ldp_e (w := w) (S := S) (st := st1) (D := D) (by rw [e2]; exact h2) (by rw [e2]; exact e3 l)
    refine ⟨⟨st2, ?_, f2⟩, fun i hi st' hs => ?_, fun x hx => ?_⟩
    · show (est w c st).bind (erun w S) = some st2
      rw [e1]
      exact f1
    · cases i with
      | zero =>
        have hs : st = st' := Option.some.inj hs
        rw [← hs]
        exact l
      | succ i =>
        have hs : (est w c st).bind (erun w (S.take i)) = some st' := hs
        rw [e1] at hs
        exact f3 i (by rw [List.length_cons] at hi; omega) st' hs
    · rcases List.mem_cons.mp hx with z | z
      · rw [z]
        exact fun y => (e4 y).2
      · exact f4 x z
/-- reckons -/
theorem r203 {t a : Nat} {S : List Int32} (hF : 500 ≤ F) (ht : t < 6) (h : cAt m t a S) (hw : cwf S) {v2 v3 : Int32} (h2 : v2 = Int32.ofNat a) (h3 : v3 = Int32.ofNat (a + S.length)) : ∃ m', D203 F (Int32.ofNat t) v2 v3 m = some (ev (m.2 79) S, m') ∧ xfl m m' := by
  obtain ⟨h4, h5⟩ := h
  obtain ⟨w1, w2⟩ := hw
  obtain ⟨⟨st', e1, e2⟩, e3, e4⟩ := ldp_e (w := m.2 79) (S := S) (st := []) (D := 1) w1 (by decide)
  obtain ⟨v, r, rfl⟩ : ∃ v r, st' = v :: r := by
    cases st' with
    | nil => cases e2
    | cons v r => exact ⟨v, r, rfl⟩
  subst h2
  subst h3
  have x0 : xfl m (xu m 70 20 0) := ⟨fun _ _ _ => rfl, fun i j k => xu_o k⟩
  obtain ⟨m', d1, d2⟩ := r203_8 (F := F) (t := t) (hi := a + S.length) ht h4 (v2 := Int32.ofNat a) F (m := xu m 70 20 0) (k := a) (cs := S) (st := []) (v := v) (r := r) rfl (by omega) (fun j c hj => (xu_o (fun z => absurd z.1 (by decide))).trans (h5 j c hj)) (fun c hc => ⟨w2 c hc, e4 c hc⟩) ⟨xu_s _ _ _ _, by decide, fun j x hx => by cases hx⟩ (by show 0 + S.length ≤ 464; omega) e1 e3
  refine ⟨m', ?_, xfl_t x0 d2⟩
  unfold D203
  have ee : ev (m.2 79) S = v := by
    unfold ev
    rw [e1]
  rw [ee]
  exact d1
theorem kAt_x {m' : xS} {t i : Nat} {q : List Int32 × Option (List Int32)} (x : xfl m m') (h : kAt m t i q) : kAt m' t i q := by
  have e : ∀ a j, a ≠ 70 → m'.1 a j = m.1 a j := fun a j z => x.2 a j (fun y => z y.1)
  have c : ∀ a S, cAt m t a S → cAt m' t a S := fun a S z => ⟨z.1, fun j c hj => (e 72 _ (by decide)).trans (z.2 j c hj)⟩
  obtain ⟨⟨a, h1, h2, h3, h4⟩, h5⟩ := h
  refine ⟨⟨a, (e 74 _ (by decide)).trans h1, (e 74 _ (by decide)).trans h2, c _ _ h3, h4⟩, ?_⟩
  cases q2 : q.2 with
  | none =>
    rw [q2] at h5
    show (m'.1 74 _).toInt < 0
    rw [e 74 _ (by decide)]
    exact h5
  | some T =>
    rw [q2] at h5
    obtain ⟨b, g1, g2, g3, g4⟩ := h5
    exact ⟨b, (e 74 _ (by decide)).trans g1, (e 74 _ (by decide)).trans g2, c _ _ g3, g4⟩
theorem r244_2 {t : Nat} (hF : 500 ≤ F) (ht : t < 6) {n : Nat} (hn : n ≤ 12) : ∀ (f : Nat) {m : xS} {i : Nat} {cs : cLs}, i + cs.length = n → cs.length < f → m.1 75 t = Int32.ofNat n → (∀ j q, cs[j]? = some q → kAt m t (i + j) q) → ∃ m', D244_2 F f (Int32.ofNat t) (Int32.ofNat i) m = some (sumE (m.2 79) cs, m') ∧ xfl m m' := by
  intro f
  induction f with
  | zero => intro m i cs _ l; omega
  | succ f ih =>
    intro m i cs hi lf h75 hk
    have et := nJ (n := t) (by omega)
    have ei := nJ (n := i) (by omega)
    have en := nJ (n := n) (by omega)
    unfold D244_2
    rw [gxn et, h75, if_pos (gxb et ht)]
    cases cs with
    | nil =>
      have hi : i = n := hi
      exact ⟨m, oT (zc.trans (decide_eq_true (by omega))) rfl, xfl_r m⟩
    | cons q cs =>
      rw [List.length_cons] at hi lf
      have e1 : (48 * Int32.ofNat t).toInt = 48 * (t : Int) := (xm1 (by show _ ≤ (48 : Int) * _; omega) (by show (48 : Int) * _ ≤ _; omega)).trans (by rw [et]; rfl)
      have e2 : (4 * Int32.ofNat i).toInt = 4 * (i : Int) := (xm1 (by show _ ≤ (4 : Int) * _; omega) (by show (4 : Int) * _ ≤ _; omega)).trans (by rw [ei]; rfl)
      have e3 : (48 * Int32.ofNat t + 4 * Int32.ofNat i).toInt = ((48 * t + 4 * i : Nat) : Int) := (xa1 (by omega) (by omega)).trans (by rw [e1, e2]; omega)
      have e3p : ∀ x : Nat, x < 4 → (48 * Int32.ofNat t + 4 * Int32.ofNat i + Int32.ofNat x).toInt = ((48 * t + 4 * i + x : Nat) : Int) := fun x hx => (xa1 (by rw [e3, nJ (by omega)]; omega) (by rw [e3, nJ (by omega)]; omega)).trans (by rw [e3, nJ (by omega)]; omega)
      have p1 : (48 * Int32.ofNat t + 4 * Int32.ofNat i + 1).toInt = ((48 * t + 4 * i + 1 : Nat) : Int) := e3p 1 (by decide)
      have p2 : (48 * Int32.ofNat t + 4 * Int32.ofNat i + 2).toInt = ((48 * t + 4 * i + 2 : Nat) : Int) := e3p 2 (by decide)
      have p3 : (48 * Int32.ofNat t + 4 * Int32.ofNat i + 3).toInt = ((48 * t + 4 * i + 3 : Nat) : Int) := e3p 3 (by decide)
      have K := hk 0 q rfl
      rw [Nat.add_zero] at K
      obtain ⟨S, T⟩ := q
      have ans : ∀ {m1 : xS}, xfl m m1 → ∃ m', D244_58 F (Int32.ofNat t) (Int32.ofNat i) (48 * Int32.ofNat t + 4 * Int32.ofNat i) m1 = some (ev (m.2 79) S, m') ∧ xfl m m' := fun {m1} x => by
        obtain ⟨⟨a, k1, k2, k3, k4⟩, -⟩ := kAt_x x K
        obtain ⟨m', d1, d2⟩ := r203 (F := F) hF ht k3 k4 k1 k2
        refine ⟨m', ?_, xfl_t x d2⟩
        unfold D244_58
        rw [gxn e3, gxn p1, if_pos (gxb e3 (by omega)), if_pos (gxb p1 (by omega))]
        refine ob d1 ?_
        rw [show m1.2 79 = m.2 79 from funext fun j => x.1 79 j (by decide)]
      rw [gxn p2, gxn p3, if_pos (gxb p2 (by omega)), if_pos (gxb p2 (by omega)), if_pos (gxb p3 (by omega))]
      have h1 : zcmp .ge (Int32.ofNat i) (Int32.ofNat n) = false := zc.trans (decide_eq_false (by omega))
      cases T with
      | none =>
        obtain ⟨m', d1, d2⟩ := ans (xfl_r m)
        have k : (m.1 74 (48 * t + 4 * i + 2)).toInt < 0 := K.2
        exact ⟨m', oF h1 (oT (zcl.trans (decide_eq_true k)) d1), d2⟩
      | some T =>
        obtain ⟨-, b, k1, k2, k3, k4⟩ := K
        have k3l := k3.1
        obtain ⟨m1, d1, d2⟩ := r203 (F := F) hF ht k3 k4 k1 k2
        have g3 := (lgS (ev (m.2 79) T) 1)
        have nn : zcmp .lt (m.1 74 (48 * t + 4 * i + 2)) 0 = false := zcl.trans (decide_eq_false (by
          rw [k1, nJ (by omega)]
          show ¬ (_ : Int) < (0 : Int)
          omega))
        have g : zcmp .ne (lg_cmp (ev (m.2 79) T) 1) 0 = !decide (ev (m.2 79) T = 1) := by
          have k := ylcmp (ev (m.2 79) T) 1
          have z0 : (0 : Int32).toInt = 0 := rfl
          rw [zcn]
          congr 1
          by_cases h : ev (m.2 79) T = 1
          · rw [decide_eq_true h]
            have e : (lg_cmp (ev (m.2 79) T) 1).toInt = 0 := by
              rw [h] at k ⊢
              omega
            rw [show lg_cmp (ev (m.2 79) T) 1 = 0 from Int32.toInt_inj.mp e]
            rfl
          · have ne : (ev (m.2 79) T).toInt ≠ (1 : Int64).toInt := fun z => h (Int64.toInt_inj.mp z)
            have nz : ¬ lg_cmp (ev (m.2 79) T) 1 = 0 := fun z => by
              rw [z, z0] at k
              omega
            rw [decide_eq_false h]
            simp [nz]
        by_cases hT : ev (m.2 79) T = 1
        · obtain ⟨m', f1, f2⟩ := ans d2
          refine ⟨m', oF h1 (oF nn (ob d1 (oF (g.trans (by rw [decide_eq_true hT]; rfl)) ?_))), f2⟩
          show _ = some (if ev (m.2 79) T = 1 then ev (m.2 79) S else sumE (m.2 79) cs, m')
          rw [if_pos hT]
          exact f1
        · have e79 : m1.2 79 = m.2 79 := funext fun j => d2.1 79 j (by decide)
          obtain ⟨m', f1, f2⟩ := ih (m := m1) (i := i + 1) (cs := cs) (by omega) (by omega) ((d2.2 75 t (fun z => absurd z.1 (by decide))).trans h75) (fun j q hj => by
            rw [show i + 1 + j = i + (j + 1) by omega]
            exact kAt_x d2 (hk (j + 1) q hj))
          refine ⟨m', oF h1 (oF nn (ob d1 (oT (g.trans (by rw [decide_eq_false hT]; rfl)) ?_))), xfl_t d2 f2⟩
          show _ = some (if ev (m.2 79) T = 1 then ev (m.2 79) S else sumE (m.2 79) cs, m')
          rw [if_neg hT, show Int32.ofNat i + Int32.ofInt 1 = Int32.ofNat (i + 1) from xadd (a := i) (b := 1) (by omega), ← e79]
          exact f1
/-- summedBy -/
theorem r244 {t : Nat} {cs : cLs} {v1 : Int32} (hF : 500 ≤ F) (ht : t < 6) (h1 : v1 = Int32.ofNat t) (h : cAll m t cs) : ∃ m', D244 F v1 m = some (sumE (m.2 79) cs, m') ∧ xfl m m' := by
  subst h1
  unfold D244
  exact r244_2 hF ht h.2.1 F (i := 0) (cs := cs) (by omega) (by have := h.2.1; omega) h.1 (fun j q hj => by rw [Nat.zero_add]; exact h.2.2 j q hj)
end PSUM
