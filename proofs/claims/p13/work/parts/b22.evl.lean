/-! Codes reckoned, exactly. -/
/-- two values joined -/
def eop (k : Int32) (x y : Int64) : Int64 :=
  if (k == 2) = true then x + y else if (k == 3) = true then x - y else if (k == 4) = true then x * y
  else if (k == 5) = true then (if y = 0 then 0 else x / y)
  else if (k == 6) = true then (if x.toInt < y.toInt then 1 else 0)
  else if (k == 7) = true then (if x.toInt ≤ y.toInt then 1 else 0)
  else if (k == 8) = true then (if x = y then 1 else 0)
  else if (k == 9) = true then (if y.toInt ≤ x.toInt then 1 else 0)
  else if (k == 10) = true then (if y.toInt < x.toInt then 1 else 0)
  else if (k == 11) = true then x ||| y
  else if (k == 12) = true then x &&& y
  else if (k == 13) = true then x ||| y
  else if (k == 14) = true then (if y = 0 then 0 else x - x / y * y)
  else x ||| y
/-- one code; w: the words' values, the stack's top first -/
def est (w : Nat → Int64) (c : Int32) (st : List Int64) : Option (List Int64) :=
  if c.toInt % 16 = 0 then some ((c >>> (4 &&& 31)).toInt64 :: st)
  else if c.toInt % 16 = 1 then some (w (c.toInt / 16).toNat :: st)
  else if c.toInt % 16 = 11 then (match st with
    | x :: r => some ((1 - x) :: r)
    | [] => none)
  else (match st with
    | y :: x :: r => some (eop (c &&& 15) x y :: r)
    | _ => none)
def erun (w : Nat → Int64) : List Int32 → List Int64 → Option (List Int64)
  | [], st => some st
  | c :: cs, st => (est w c st).bind (erun w cs)
/-- the reference's stack -/
def sR (m : xS) (st : List Int64) : Prop := m.1 70 20 = Int32.ofNat st.length ∧ st.length ≤ 64 ∧ ∀ (j : Nat) (x : Int64), st.reverse[j]? = some x → m.2 78 j = x
section PEVL
variable {m : xS} {F : Nat} {st : List Int64}
theorem r200 {v : Int64} (h : sR m st) (l : st.length < 64) : ∃ m', D200 F v m = some ((), m') ∧ sR m' (v :: st) ∧ xfl m m' := by
  obtain ⟨h1, h2, h3⟩ := h
  have e := nJ (n := st.length) (by omega)
  refine ⟨xu (xul m 78 st.length v) 70 20 (Int32.ofNat (st.length + 1)), ?_, ⟨?_, ?_, fun j x hx => ?_⟩, ⟨fun i j k => if_neg (fun z => k z.1), fun i j k => xu_o k⟩⟩
  · unfold D200
    rw [h1, gxn e, if_pos (gxb e l), show Int32.ofNat st.length + 1 = Int32.ofNat (st.length + 1) from xadd (a := st.length) (b := 1) (by omega)]
  · rw [xu_s, List.length_cons]
  · rw [List.length_cons]
    omega
  · show (xul m 78 st.length v).2 78 j = x
    rw [List.reverse_cons] at hx
    by_cases z : j < st.length
    · rw [List.getElem?_append_left (by rw [List.length_reverse]; exact z)] at hx
      exact (if_neg (fun y => by omega)).trans (h3 j x hx)
    · by_cases z2 : j = st.length
      · subst z2
        rw [List.getElem?_append_right (by rw [List.length_reverse]; exact Nat.le_refl _), List.length_reverse, Nat.sub_self] at hx
        have hx : v = x := Option.some.inj hx
        exact (if_pos ⟨rfl, rfl⟩).trans hx
      · rw [List.getElem?_eq_none (by rw [List.length_append, List.length_reverse]; show st.length + 1 ≤ j; omega)] at hx
        cases hx
theorem r201 {v : Int64} (h : sR m (v :: st)) : ∃ m', D201 F m = some (v, m') ∧ sR m' st ∧ xfl m m' := by
  obtain ⟨h1, h2, h3⟩ := h
  rw [List.length_cons] at h1 h2
  have e := nJ (n := st.length) (by omega)
  have e1 : Int32.ofNat (st.length + 1) - 1 = Int32.ofNat st.length := by
    apply Int32.toInt_inj.mp
    rw [e]
    have k := nJ (n := st.length + 1) (by omega)
    exact (xs1 (by show _ ≤ _ - (1 : Int); omega) (by show _ - (1 : Int) ≤ _; omega)).trans (by rw [k]; show _ - (1 : Int) = _; omega)
  refine ⟨xu m 70 20 (Int32.ofNat st.length), ?_, ⟨xu_s _ _ _ _, by omega, fun j x hx => h3 j x ?_⟩, ⟨fun i j k => rfl, fun i j k => xu_o k⟩⟩
  · unfold D201
    rw [h1, e1, gxn e, if_pos (gxb e (by omega))]
    refine congrArg (fun z => some (z, _)) (h3 st.length v ?_)
    rw [List.reverse_cons, List.getElem?_append_right (by rw [List.length_reverse]; exact Nat.le_refl _), List.length_reverse, Nat.sub_self]
    rfl
  · rw [List.reverse_cons]
    have l : j < st.reverse.length := (List.getElem?_eq_some_iff.mp hx).1
    rw [List.getElem?_append_left l]
    exact hx
theorem lg0 (y : Int64) : zcmp .ne (lg_cmp y 0) 0 = !decide (y = 0) := by
  have k := ylcmp y 0
  rw [zcn]
  by_cases h : y = 0
  · subst h
    rfl
  · have ne : y.toInt ≠ 0 := fun z => h (Int64.toInt_inj.mp z)
    have k0 : ((0 : Int64)).toInt = 0 := rfl
    rw [k0] at k
    have nz : ¬ lg_cmp y 0 = 0 := fun z => by
      rw [z] at k
      have z0 : (0 : Int32).toInt = 0 := rfl
      rw [z0] at k
      omega
    rw [decide_eq_false h]
    simp [nz]
theorem lgS (x y : Int64) : zcmp .ge (lg_cmp x y) 0 = decide (y.toInt ≤ x.toInt) ∧ zcmp .gt (lg_cmp x y) 0 = decide (y.toInt < x.toInt) ∧ zcmp .ne (lg_cmp x y) 0 = !decide (x = y) ∧ zcmp .lt (lg_cmp x y) 0 = decide (x.toInt < y.toInt) ∧ zcmp .le (lg_cmp x y) 0 = decide (x.toInt ≤ y.toInt) := by
  have k := ylcmp x y
  have z0 : (0 : Int32).toInt = 0 := rfl
  refine ⟨zc.trans (decide_eq_decide.mpr ?_), zcgt.trans (decide_eq_decide.mpr ?_), ?_, zcl.trans (decide_eq_decide.mpr ?_), zcle.trans (decide_eq_decide.mpr ?_)⟩
  · rw [z0]
    omega
  · rw [z0]
    omega
  · rw [zcn]
    congr 1
    by_cases h : x = y
    · have e : (lg_cmp x y).toInt = 0 := by
        rw [h] at k ⊢
        omega
      rw [decide_eq_true h, show lg_cmp x y = 0 from Int32.toInt_inj.mp e]
      rfl
    · have ne : x.toInt ≠ y.toInt := fun z => h (Int64.toInt_inj.mp z)
      have nz : ¬ lg_cmp x y = 0 := fun z => by
        rw [z, z0] at k
        omega
      rw [decide_eq_false h]
      simp [nz]
  · rw [z0]
    omega
  · rw [z0]
    omega
theorem obv {c : Bool} {a1 b1 : Option (Int64 × xS)} {a2 b2 : Int64} (h1 : a1 = some (a2, m)) (h2 : b1 = some (b2, m)) : (if c = true then a1 else b1) = some ((if c = true then a2 else b2), m) := by
  cases c with
  | true => exact h1
  | false => exact h2
theorem obd {c : Bool} {p : Prop} [Decidable p] {a1 b1 : Option (Int64 × xS)} {a2 b2 : Int64} (hc : c = !decide p) (h1 : ¬ p → a1 = some (a2, m)) (h2 : p → b1 = some (b2, m)) : (if c = true then a1 else b1) = some ((if p then b2 else a2), m) := by
  subst hc
  by_cases h : p
  · rw [decide_eq_true h, if_pos h]
    exact h2 h
  · rw [decide_eq_false h, if_neg h]
    exact h1 h
theorem r202 {k : Int32} {x y : Int64} : D202 F k x y m = some (eop k x y, m) := by
  obtain ⟨g1, g2, g3, g4, g5⟩ := lgS x y
  have n0 : ∀ z : Int64, ¬ z = 0 → (!(z == 0)) = true := fun z h => by simp [h]
  have ng : ∀ {a b : Int}, decide (b ≤ a) = !decide (a < b) := fun {a b} => by
    by_cases h : b ≤ a
    · rw [decide_eq_true h, decide_eq_false (by omega)]
      rfl
    · rw [decide_eq_false h, decide_eq_true (by omega)]
      rfl
  have ng2 : ∀ {a b : Int}, decide (b < a) = !decide (a ≤ b) := fun {a b} => by
    by_cases h : b < a
    · rw [decide_eq_true h, decide_eq_false (by omega)]
      rfl
    · rw [decide_eq_false h, decide_eq_true (by omega)]
      rfl
  unfold D202 eop
  refine obv rfl (obv rfl (obv rfl (obv (obd (lg0 y) (fun h => ?_) (fun _ => rfl)) (obv (obd (g1.trans ng) (fun _ => rfl) (fun _ => rfl)) (obv (obd (g2.trans ng2) (fun _ => rfl) (fun _ => rfl)) (obv (obd g3 (fun _ => rfl) (fun _ => rfl)) (obv (obd (g4.trans ng2) (fun _ => rfl) (fun _ => rfl)) (obv (obd (g5.trans ng) (fun _ => rfl) (fun _ => rfl)) (obv rfl (obv rfl (obv rfl (obv (obd (lg0 y) (fun h => ?_) (fun _ => rfl)) rfl))))))))))))
  · rw [if_pos (n0 y h)]
  · rw [if_pos (n0 y h)]
/-- reckons: its loop -/
theorem r203_8 {t hi : Nat} (ht : t < 6) (hh : hi ≤ 400) {v2 : Int32} : ∀ (f : Nat) {m : xS} {k : Nat} {cs : List Int32} {st : List Int64} {v : Int64} {r : List Int64}, k + cs.length = hi → cs.length < f → (∀ (j : Nat) (c : Int32), cs[j]? = some c → m.1 72 (400 * t + (k + j)) = c) → (∀ c ∈ cs, 0 ≤ c.toInt ∧ (c.toInt % 16 = 1 → c.toInt / 16 ≤ 12)) → sR m st → st.length + cs.length ≤ 464 → erun (m.2 79) cs st = some (v :: r) → (∀ i, i ≤ cs.length → ∀ st', erun (m.2 79) (cs.take i) st = some st' → st'.length ≤ 64) → ∃ m', D203_8 F f (Int32.ofNat t) v2 (Int32.ofNat hi) (Int32.ofNat k) m = some (v, m') ∧ xfl m m' := by
  intro f
  induction f with
  | zero => intro m k cs st v r _ l; omega
  | succ f ih =>
    intro m k cs st v r hk lf hc hb hs _ he hd
    have ek := nJ (n := k) (by omega)
    have eh := nJ (n := hi) (by omega)
    unfold D203_8
    cases cs with
    | nil =>
      have hk : k = hi := hk
      have he : st = v :: r := Option.some.inj he
      subst he
      obtain ⟨m', a1, a2, a3⟩ := r201 (F := F) hs
      exact ⟨m', oT (zc.trans (decide_eq_true (by omega))) (ob a1 rfl), a3⟩
    | cons c cs =>
      rw [List.length_cons] at hk lf
      have a1 : ((400 : Int32) * Int32.ofNat t).toInt = 400 * (t : Int) := (xm1 (by show _ ≤ (400 : Int) * _; rw [nJ (by omega)]; omega) (by show (400 : Int) * _ ≤ _; rw [nJ (by omega)]; omega)).trans (by rw [nJ (n := t) (by omega)]; rfl)
      have e : ((400 : Int32) * Int32.ofNat t + Int32.ofNat k).toInt = ((400 * t + k : Nat) : Int) := (xa1 (by omega) (by omega)).trans (by omega)
      have ec : m.1 72 (400 * t + k) = c := hc 0 c rfl
      obtain ⟨b1, b2⟩ := hb c (List.mem_cons_self ..)
      have an := xan c
      have sh := xsh c
      have nx : Int32.ofNat k + Int32.ofInt 1 = Int32.ofNat (k + 1) := xadd (a := k) (b := 1) (by omega)
      rw [gxn e, ec]
      have he : (est (m.2 79) c st).bind (erun (m.2 79) cs) = some (v :: r) := he
      obtain ⟨st1, s1, s2⟩ := Option.bind_eq_some_iff.mp he
      have l64 : st1.length ≤ 64 := hd 1 (by rw [List.length_cons]; omega) st1 (by
        show (est (m.2 79) c st).bind (erun (m.2 79) []) = some st1
        rw [s1]
        rfl)
      have next : ∀ {m1 : xS}, xfl m m1 → sR m1 st1 → ∃ m', D203_8 F f (Int32.ofNat t) v2 (Int32.ofNat hi) (Int32.ofNat (k + 1)) m1 = some (v, m') ∧ xfl m m' := fun {m1} x h => by
        have e79 : m1.2 79 = m.2 79 := funext fun j => x.1 79 j (by decide)
        obtain ⟨m', d1, d2⟩ := ih (m := m1) (k := k + 1) (cs := cs) (st := st1) (v := v) (r := r) (by omega) (by omega) (fun j c' hj => by
          rw [x.2 72 _ (fun z => absurd z.1 (by decide)), show k + 1 + j = k + (j + 1) by omega]
          exact hc (j + 1) c' hj) (fun c' hc' => hb c' (List.mem_cons_of_mem _ hc')) h (by omega) (by rw [e79]; exact s2) (fun i hi st' hs' => hd (i + 1) (by rw [List.length_cons]; omega) st' (by
          rw [e79] at hs'
          show (est (m.2 79) c st).bind (erun (m.2 79) (cs.take i)) = some st'
          rw [s1]
          exact hs'))
        exact ⟨m', d1, xfl_t x d2⟩
      have h1 : zcmp .ge (Int32.ofNat k) (Int32.ofNat hi) = false := zc.trans (decide_eq_false (by omega))
      have h2 : xib ((400 : Int32) * Int32.ofNat t + Int32.ofNat k) 2400 = true := gxb e (by omega)
      have t129 : ∀ {m1 m' : xS} {v5 v6 : Int32}, D203_8 F f (Int32.ofNat t) v2 (Int32.ofNat hi) (Int32.ofNat (k + 1)) m1 = some (v, m') → D203_129 F (D203_8 F f) (Int32.ofNat t) v2 (Int32.ofNat hi) (Int32.ofNat k) v5 v6 m1 = some (v, m') := fun {m1 m' v5 v6} d => by
        unfold D203_129
        rw [nx]
        exact d
      have ne : ∀ (x : Int32) (y : Int), x.toInt = y → 0 ≤ y → zcmp .ne (c &&& 15) x = !decide (c.toInt % 16 = y) := fun x y hx _ => by
        rw [zcn]
        congr 1
        by_cases h : c.toInt % 16 = y
        · rw [decide_eq_true h, show (c &&& 15) = x from Int32.toInt_inj.mp (by omega)]
          exact beq_self_eq_true x
        · rw [decide_eq_false h]
          have : (c &&& 15) ≠ x := fun z => h (by rw [← an, z, hx])
          simp [this]
      have e0 := ne 0 0 rfl (by decide)
      have e1 := ne 1 1 rfl (by decide)
      have e11 := ne 11 11 rfl (by decide)
      unfold est at s1
      by_cases k0 : c.toInt % 16 = 0
      · rw [if_pos k0] at s1
        cases s1
        rw [decide_eq_true k0] at e0
        obtain ⟨m1, d1, d2, d3⟩ := r200 (F := F) (v := (c >>> (4 &&& 31)).toInt64) hs (by rw [List.length_cons] at l64; omega)
        obtain ⟨m', f1, f2⟩ := next d3 d2
        exact ⟨m', oF h1 (oT h2 (oT h2 (oF e0 (ob d1 (t129 f1))))), f2⟩
      rw [if_neg k0] at s1
      rw [decide_eq_false k0] at e0
      by_cases k1 : c.toInt % 16 = 1
      · rw [if_pos k1] at s1
        cases s1
        rw [decide_eq_true k1] at e1
        have i13 : (c >>> (4 &&& 31)).toInt = (((c.toInt / 16).toNat : Nat) : Int) := by
          rw [sh]
          omega
        have b3 := b2 k1
        obtain ⟨m1, d1, d2, d3⟩ := r200 (F := F) (v := m.2 79 (c.toInt / 16).toNat) hs (by rw [List.length_cons] at l64; omega)
        obtain ⟨m', f1, f2⟩ := next d3 d2
        refine ⟨m', oF h1 (oT h2 (oT h2 (oT e0 (oF e1 (oT (gxb i13 (by omega)) ?_))))), f2⟩
        rw [gxn i13]
        exact ob d1 (t129 f1)
      rw [if_neg k1] at s1
      rw [decide_eq_false k1] at e1
      by_cases k11 : c.toInt % 16 = 11
      · rw [if_pos k11] at s1
        rw [decide_eq_true k11] at e11
        cases st with
        | nil => cases s1
        | cons x st =>
          cases s1
          obtain ⟨m0, d1, d2, d3⟩ := r201 (F := F) hs
          obtain ⟨m1, g1, g2, g3⟩ := r200 (F := F) (v := 1 - x) d2 (by rw [List.length_cons] at l64; omega)
          obtain ⟨m', f1, f2⟩ := next (xfl_t d3 g3) g2
          exact ⟨m', oF h1 (oT h2 (oT h2 (oT e0 (oT e1 (oF e11 (ob d1 (ob g1 (t129 f1)))))))), f2⟩
      rw [if_neg k11] at s1
      rw [decide_eq_false k11] at e11
      cases st with
      | nil => cases s1
      | cons y st =>
        cases st with
        | nil => cases s1
        | cons x st =>
          cases s1
          obtain ⟨m0, d1, d2, d3⟩ := r201 (F := F) hs
          obtain ⟨m00, i1, i2, i3⟩ := r201 (F := F) d2
          obtain ⟨m1, g1, g2, g3⟩ := r200 (F := F) (v := eop (c &&& 15) x y) i2 (by rw [List.length_cons] at l64; omega)
          obtain ⟨m', f1, f2⟩ := next (xfl_t d3 (xfl_t i3 g3)) g2
          exact ⟨m', oF h1 (oT h2 (oT h2 (oT e0 (oT e1 (oT e11 (ob d1 (ob i1 (ob r202 (ob g1 (t129 f1)))))))))), f2⟩
end PEVL
