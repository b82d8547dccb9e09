/-! The reference's days by a rule. -/
def wrx (s : Nat → Int32) (t h : Nat) (need pay : Int32) : Nat → Int32
  | 9 => need
  | 10 => pay
  | i => wrd s t h i
/-- what the reference's words alone may change -/
def kw (m m' : xS) : Prop := m'.1 = m.1 ∧ ∀ i j, i ≠ 79 → m'.2 i j = m.2 i j
def kg (m m' : xS) : Prop := (∀ i j, ¬ (i = 70 ∧ j = 20) → m'.1 i j = m.1 i j) ∧ ∀ i j, i ≠ 78 → i ≠ 79 → m'.2 i j = m.2 i j
theorem kg_r (m : xS) : kg m m := ⟨fun _ _ _ => rfl, fun _ _ _ _ => rfl⟩
theorem kg_t {a b c : xS} (h1 : kg a b) (h2 : kg b c) : kg a c := ⟨fun i j h => (h2.1 i j h).trans (h1.1 i j h), fun i j h k => (h2.2 i j h k).trans (h1.2 i j h k)⟩
theorem kg_w {a b : xS} (h : kw a b) : kg a b := ⟨fun i j _ => by rw [h.1], fun i j _ k => h.2 i j k⟩
theorem kg_l {a b : xS} (h : xfl a b) : kg a b := ⟨h.2, fun i j k _ => h.1 i j k⟩
theorem erun_w {w w' : Nat → Int64} (h : ∀ i, i ≤ 12 → w i = w' i) : ∀ {S : List Int32} {st : List Int64} {D : Nat}, ldp S st.length = some D → erun w S st = erun w' S st
  | [], _, _, _ => rfl
  | c :: S, st, D, l => by
    have l : (zst c st.length).bind (ldp S) = some D := l
    obtain ⟨k, h1, h2⟩ := Option.bind_eq_some_iff.mp l
    obtain ⟨⟨st1, e1, e2⟩, -, -, e4⟩ := zst_e (w := w) h1
    have e : est w c st = est w' c st := by
      unfold est
      by_cases k1 : c.toInt % 16 = 1
      · have b := e4 k1
        rw [if_neg (show ¬ c.toInt % 16 = 0 by omega), if_pos k1, if_neg (show ¬ c.toInt % 16 = 0 by omega), if_pos k1, h _ (by omega)]
      · by_cases k0 : c.toInt % 16 = 0
        · rw [if_pos k0, if_pos k0]
        · rw [if_neg k0, if_neg k1, if_neg k0, if_neg k1]
    show (est w c st).bind (erun w S) = (est w' c st).bind (erun w' S)
    rw [← e, e1]
    exact erun_w h (by rw [e2]; exact h2)
theorem ev_w {w w' : Nat → Int64} (h : ∀ i, i ≤ 12 → w i = w' i) {S : List Int32} (hw : cwf S) : ev w S = ev w' S := by
  unfold ev
  rw [erun_w h (st := []) hw.1]
theorem sumE_w {w w' : Nat → Int64} (h : ∀ i, i ≤ 12 → w i = w' i) : ∀ {cs : cLs}, (∀ q ∈ cs, cwf q.1 ∧ ∀ T, q.2 = some T → cwf T) → sumE w cs = sumE w' cs
  | [], _ => rfl
  | (S, none) :: cs, k => ev_w h (k _ (List.mem_cons_self ..)).1
  | (S, some T) :: cs, k => by
    have k0 := k _ (List.mem_cons_self ..)
    show (if ev w T = 1 then ev w S else sumE w cs) = (if ev w' T = 1 then ev w' S else sumE w' cs)
    rw [ev_w h k0.1, ev_w h (k0.2 T rfl), sumE_w h (fun q hq => k q (List.mem_cons_of_mem _ hq))]
theorem cAll_wf {m : xS} {r : Nat} {cs : cLs} (h : cAll m r cs) : ∀ q ∈ cs, cwf q.1 ∧ ∀ T, q.2 = some T → cwf T := fun q hq => by
  obtain ⟨i, hi⟩ := List.getElem?_of_mem hq
  obtain ⟨⟨a, -, -, -, k1⟩, k2⟩ := h.2.2 i q hi
  refine ⟨k1, fun T e => ?_⟩
  rw [e] at k2
  obtain ⟨b, -, -, -, k3⟩ := k2
  exact k3
theorem cAll_f {m m' : xS} {r : Nat} {cs : cLs} (h2 : m'.1 72 = m.1 72) (h4 : m'.1 74 = m.1 74) (h5 : m'.1 75 = m.1 75) (h : cAll m r cs) : cAll m' r cs := by
  unfold cAll kAt cAt at h ⊢
  rw [h2, h4, h5]
  exact h
/-- the sums of the reference -/
def smR (cs : cLs) : (Nat → Int32) → Nat → Nat → Int64 := fun s t h => sumE (wrl s t h) cs
section PRRN
variable {s : Nat → Int32} {m : xS} {F : Nat}
theorem r243_16 {t h : Nat} (I : vI (m.1 80)) (ht : (t : Int) < (m.1 80 2).toInt) (hh : h < 6) : ∀ (f : Nat) {k : Nat} {a b : Int32}, (k : Int) ≤ (m.1 80 3).toInt → 7 - k < f → ∃ m', D243_16 F f (Int32.ofNat t) (Int32.ofNat h) (m.1 80 (10 + 6 * t + 3)) a b (Int32.ofNat k) m = some ((), m') ∧ kw m m' ∧ ∀ i, i ≤ 12 → m'.2 79 i = (wrx (m.1 80) t h (wnt (m.1 80) t h 2 true k ((m.1 80 3).toInt.toNat - k) a) (wnt (m.1 80) t h 3 false k ((m.1 80 3).toInt.toNat - k) b) i).toInt64 := by
  have t6 : t < 6 := by have := I_nt I; omega
  have it := I.2.1 t ht
  have n6 := I_n6 I
  have n3 := I_nw I
  have eh : m.1 80 (10 + 6 * t + 3) = Int32.ofNat (m.1 80 (10 + 6 * t + 3)).toInt.toNat := i32n (by omega)
  have lh : (m.1 80 (10 + 6 * t + 3)).toInt.toNat < 6 := by omega
  intro f
  induction f with
  | zero => intro k a b _ l; omega
  | succ f ih =>
    intro k a b hk l
    have ek := nJ (n := k) (by omega)
    unfold D243_16
    by_cases q : (m.1 80 3).toInt ≤ (k : Int)
    · rw [show (m.1 80 3).toInt.toNat - k = 0 by omega]
      show ∃ m' : xS, _ ∧ _ ∧ ∀ i, i ≤ 12 → m'.2 79 i = (wrx (m.1 80) t h a b i).toInt64
      have fin : ∀ {x : Int64}, x = (if ptr (m.1 80) h (m.1 80 (10 + 6 * t + 3)).toInt.toNat = true then (1 : Int32) else 0).toInt64 → ∀ i, i ≤ 12 → (xul (xul (xul (xul (xul (xul (xul (xul (xul (xul (xul (xul (xul m 79 0 (Int32.ofNat t).toInt64) 79 1 (m.1 80 (10 + 6 * t + 1)).toInt64) 79 2 (m.1 80 (10 + 6 * t + 0)).toInt64) 79 3 (m.1 80 (10 + 6 * t + 3)).toInt64) 79 4 (Int32.ofNat h).toInt64) 79 5 (m.1 80 (10 + 6 * t + 4)).toInt64) 79 6 (psh (m.1 80) t 1).toInt64) 79 7 (m.1 80 (10 + 6 * t + 5)).toInt64) 79 8 (m.1 80 4).toInt64) 79 9 a.toInt64) 79 10 b.toInt64) 79 11 (m.1 80 (82 + 6 * h + (m.1 80 (10 + 6 * t + 3)).toInt.toNat)).toInt64) 79 12 x).2 79 i = (wrx (m.1 80) t h a b i).toInt64 := fun {x} hx i hi => by
        subst hx
        match i, hi with
        | 0, _ => rfl
        | 1, _ => rfl
        | 2, _ => rfl
        | 3, _ => rfl
        | 4, _ => rfl
        | 5, _ => rfl
        | 6, _ => rfl
        | 7, _ => rfl
        | 8, _ => rfl
        | 9, _ => rfl
        | 10, _ => rfl
        | 11, _ => rfl
        | 12, _ => rfl
        | i + 13, z => omega
      have fr : ∀ {x : Int64}, kw m (xul (xul (xul (xul (xul (xul (xul (xul (xul (xul (xul (xul (xul m 79 0 (Int32.ofNat t).toInt64) 79 1 (m.1 80 (10 + 6 * t + 1)).toInt64) 79 2 (m.1 80 (10 + 6 * t + 0)).toInt64) 79 3 (m.1 80 (10 + 6 * t + 3)).toInt64) 79 4 (Int32.ofNat h).toInt64) 79 5 (m.1 80 (10 + 6 * t + 4)).toInt64) 79 6 (psh (m.1 80) t 1).toInt64) 79 7 (m.1 80 (10 + 6 * t + 5)).toInt64) 79 8 (m.1 80 4).toInt64) 79 9 a.toInt64) 79 10 b.toInt64) 79 11 (m.1 80 (82 + 6 * h + (m.1 80 (10 + 6 * t + 3)).toInt.toNat)).toInt64) 79 12 x) := fun {x} => ⟨rfl, fun i j z => by
        have g : ∀ {n : xS} {c : Nat} {v : Int64}, (xul n 79 c v).2 i j = n.2 i j := fun {n c v} => if_neg (fun y => z y.1)
        rw [g, g, g, g, g, g, g, g, g, g, g, g, g]⟩
      have g : zcmp .ge (Int32.ofNat k) (m.1 80 3) = true := zc.trans (decide_eq_true (by omega))
      by_cases z : ptr (m.1 80) h (m.1 80 (10 + 6 * t + 3)).toInt.toNat = true
      · exact ⟨_, oT g (ob (r208 (w := 1) rfl rfl t6 (by decide)) (ob (r208 (w := 0) rfl rfl t6 (by decide)) (ob (r208 (w := 4) rfl rfl t6 (by decide)) (ob (r214 rfl t6) (ob (r208 (w := 5) rfl rfl t6 (by decide)) (ob (r211 rfl eh hh lh) (ob (r210 rfl eh hh lh) (oF (pB1.trans (by show (!ptr (m.1 80) h _) = false; rw [z]; rfl)) rfl)))))))), fr, fin (by rw [if_pos z]; rfl)⟩
      · have z0 : ptr (m.1 80) h (m.1 80 (10 + 6 * t + 3)).toInt.toNat = false := by simpa using z
        exact ⟨_, oT g (ob (r208 (w := 1) rfl rfl t6 (by decide)) (ob (r208 (w := 0) rfl rfl t6 (by decide)) (ob (r208 (w := 4) rfl rfl t6 (by decide)) (ob (r214 rfl t6) (ob (r208 (w := 5) rfl rfl t6 (by decide)) (ob (r211 rfl eh hh lh) (ob (r210 rfl eh hh lh) (oT (pB1.trans (by show (!ptr (m.1 80) h _) = true; rw [z0]; rfl)) rfl)))))))), fr, fin (by rw [if_neg z]; rfl)⟩
    · have k6 : k < 6 := by omega
      rw [show (m.1 80 3).toInt.toNat - k = ((m.1 80 3).toInt.toNat - (k + 1)) + 1 by omega]
      have g : zcmp .ge (Int32.ofNat k) (m.1 80 3) = false := zc.trans (decide_eq_false (by omega))
      have nx : ∀ {a' b' : Int32}, ∃ m', D243_104 F (D243_16 F f) (Int32.ofNat t) (Int32.ofNat h) (m.1 80 (10 + 6 * t + 3)) a' b' (Int32.ofNat k) m = some ((), m') ∧ kw m m' ∧ ∀ i, i ≤ 12 → m'.2 79 i = (wrx (m.1 80) t h (wnt (m.1 80) t h 2 true (k + 1) ((m.1 80 3).toInt.toNat - (k + 1)) a') (wnt (m.1 80) t h 3 false (k + 1) ((m.1 80 3).toInt.toNat - (k + 1)) b') i).toInt64 := fun {a' b'} => by
        obtain ⟨m', d1, d2⟩ := ih (k := k + 1) (a := a') (b := b') (by omega) (by omega)
        refine ⟨m', ?_, d2⟩
        unfold D243_104
        rw [(o1 (n := k) (by omega)).2.2]
        exact d1
      show ∃ m' : xS, _ ∧ _ ∧ ∀ i, i ≤ 12 → m'.2 79 i = (wrx (m.1 80) t h (wnt (m.1 80) t h 2 true (k + 1) ((m.1 80 3).toInt.toNat - (k + 1)) (if wsel (m.1 80) t h k = true then (if a < m.1 80 (124 + 4 * k + 2) then m.1 80 (124 + 4 * k + 2) else a) else a)) (wnt (m.1 80) t h 3 false (k + 1) ((m.1 80 3).toInt.toNat - (k + 1)) (if wsel (m.1 80) t h k = true then b + m.1 80 (124 + 4 * k + 3) else b)) i).toInt64
      have hA0 : wsel (m.1 80) t h k = false → (if wsel (m.1 80) t h k = true then (if a < m.1 80 (124 + 4 * k + 2) then m.1 80 (124 + 4 * k + 2) else a) else a) = a := fun z => if_neg (by rw [z]; decide)
      have hB0 : wsel (m.1 80) t h k = false → (if wsel (m.1 80) t h k = true then b + m.1 80 (124 + 4 * k + 3) else b) = b := fun z => if_neg (by rw [z]; decide)
      by_cases c1 : pdn (m.1 80) k = true
      · have w0 : wsel (m.1 80) t h k = false := by
          unfold wsel
          rw [c1]
          simp
        rw [hA0 w0, hB0 w0]
        obtain ⟨m', d1, d2⟩ := nx (a' := a) (b' := b)
        exact ⟨m', oF g (ob (r215 rfl k6) (oT (pB2.trans c1) d1)), d2⟩
      have c1 : pdn (m.1 80) k = false := by simpa using c1
      by_cases c2 : m.1 80 (124 + 4 * k) = Int32.ofNat h
      · by_cases c3 : m.1 80 (124 + 4 * k + 1) = m.1 80 (10 + 6 * t + 1)
        · have w1 : wsel (m.1 80) t h k = true := by
            unfold wsel
            rw [c1, c2, c3, beq_self_eq_true, beq_self_eq_true]
            rfl
          have hA1 : (if wsel (m.1 80) t h k = true then (if a < m.1 80 (124 + 4 * k + 2) then m.1 80 (124 + 4 * k + 2) else a) else a) = (if a < m.1 80 (124 + 4 * k + 2) then m.1 80 (124 + 4 * k + 2) else a) := if_pos w1
          have hB1 : (if wsel (m.1 80) t h k = true then b + m.1 80 (124 + 4 * k + 3) else b) = b + m.1 80 (124 + 4 * k + 3) := if_pos w1
          rw [hA1, hB1]
          have f2 : zcmp .ne (m.1 80 (124 + 4 * k + 0)) (Int32.ofNat h) = false := by
            rw [zcn]
            have c2 : m.1 80 (124 + 4 * k + 0) = Int32.ofNat h := c2
            rw [c2, beq_self_eq_true]
            rfl
          have f3 : zcmp .eq (m.1 80 (124 + 4 * k + 1)) (m.1 80 (10 + 6 * t + 1)) = true := by rw [zce, c3, beq_self_eq_true]
          have l90 : ∀ {a' x : Int32}, ∃ m', D243_90 F (D243_16 F f) (Int32.ofNat t) (Int32.ofNat h) (m.1 80 (10 + 6 * t + 3)) x b (Int32.ofNat k) a' m = some ((), m') ∧ kw m m' ∧ ∀ i, i ≤ 12 → m'.2 79 i = (wrx (m.1 80) t h (wnt (m.1 80) t h 2 true (k + 1) ((m.1 80 3).toInt.toNat - (k + 1)) a') (wnt (m.1 80) t h 3 false (k + 1) ((m.1 80 3).toInt.toNat - (k + 1)) (b + m.1 80 (124 + 4 * k + 3))) i).toInt64 := fun {a' x} => by
            obtain ⟨m', d1, d2⟩ := nx (a' := a') (b' := b + m.1 80 (124 + 4 * k + 3))
            refine ⟨m', ?_, d2⟩
            unfold D243_90
            exact ob (r209 (k := 3) rfl rfl k6 (by decide)) d1
          by_cases c4 : (m.1 80 (124 + 4 * k + 2)).toInt ≤ a.toInt
          · have hA2 : (if a < m.1 80 (124 + 4 * k + 2) then m.1 80 (124 + 4 * k + 2) else a) = a := if_neg (fun z => by
              have z := Int32.lt_iff_toInt_lt.mp z
              omega)
            rw [hA2]
            obtain ⟨m', d1, d2⟩ := l90 (a' := a) (x := a)
            exact ⟨m', oF g (ob (r215 rfl k6) (oF (pB2.trans c1) (ob (r209 (k := 0) rfl rfl k6 (by decide)) (oF f2 (ob (r209 (k := 1) rfl rfl k6 (by decide)) (ob (r208 (w := 1) rfl rfl t6 (by decide)) (oT f3 (ob (r209 (k := 2) rfl rfl k6 (by decide)) (oT (zcle.trans (decide_eq_true c4)) d1))))))))), d2⟩
          · have hA2 : (if a < m.1 80 (124 + 4 * k + 2) then m.1 80 (124 + 4 * k + 2) else a) = m.1 80 (124 + 4 * k + 2) := if_pos (Int32.lt_iff_toInt_lt.mpr (by omega))
            rw [hA2]
            obtain ⟨m', d1, d2⟩ := l90 (a' := m.1 80 (124 + 4 * k + 2)) (x := a)
            exact ⟨m', oF g (ob (r215 rfl k6) (oF (pB2.trans c1) (ob (r209 (k := 0) rfl rfl k6 (by decide)) (oF f2 (ob (r209 (k := 1) rfl rfl k6 (by decide)) (ob (r208 (w := 1) rfl rfl t6 (by decide)) (oT f3 (ob (r209 (k := 2) rfl rfl k6 (by decide)) (oF (zcle.trans (decide_eq_false c4)) (ob (r209 (k := 2) rfl rfl k6 (by decide)) d1)))))))))), d2⟩
        · have f3 : zcmp .eq (m.1 80 (124 + 4 * k + 1)) (m.1 80 (10 + 6 * t + 1)) = false := by rw [zce]; exact beq_eq_false_iff_ne.mpr c3
          have f2 : zcmp .ne (m.1 80 (124 + 4 * k + 0)) (Int32.ofNat h) = false := by
            rw [zcn]
            have c2 : m.1 80 (124 + 4 * k + 0) = Int32.ofNat h := c2
            rw [c2, beq_self_eq_true]
            rfl
          have w0 : wsel (m.1 80) t h k = false := by
            unfold wsel
            rw [beq_eq_false_iff_ne.mpr c3]
            simp
          rw [hA0 w0, hB0 w0]
          obtain ⟨m', d1, d2⟩ := nx (a' := a) (b' := b)
          exact ⟨m', oF g (ob (r215 rfl k6) (oF (pB2.trans c1) (ob (r209 (k := 0) rfl rfl k6 (by decide)) (oF f2 (ob (r209 (k := 1) rfl rfl k6 (by decide)) (ob (r208 (w := 1) rfl rfl t6 (by decide)) (oF f3 d1))))))), d2⟩
      · have f2 : zcmp .ne (m.1 80 (124 + 4 * k + 0)) (Int32.ofNat h) = true := by
          rw [zcn]
          have c2 : ¬ m.1 80 (124 + 4 * k + 0) = Int32.ofNat h := c2
          rw [beq_eq_false_iff_ne.mpr c2]
          rfl
        have w0 : wsel (m.1 80) t h k = false := by
          unfold wsel
          rw [beq_eq_false_iff_ne.mpr c2]
          rfl
        rw [hA0 w0, hB0 w0]
        obtain ⟨m', d1, d2⟩ := nx (a' := a) (b' := b)
        exact ⟨m', oF g (ob (r215 rfl k6) (oF (pB2.trans c1) (ob (r209 (k := 0) rfl rfl k6 (by decide)) (oT f2 d1)))), d2⟩
/-- words -/
theorem r243 (hF : 500 ≤ F) {t h : Nat} (I : vI (m.1 80)) (ht : (t : Int) < (m.1 80 2).toInt) (hh : h < 6) : ∃ m', D243 F (Int32.ofNat t) (Int32.ofNat h) m = some ((), m') ∧ kw m m' ∧ ∀ i, i ≤ 12 → m'.2 79 i = wrl (m.1 80) t h i := by
  have t6 : t < 6 := by have := I_nt I; omega
  have n3 := I_nw I
  obtain ⟨m', d1, d2, d3⟩ := r243_16 (F := F) I ht hh F (k := 0) (a := 0) (b := 0) (by omega) (by omega)
  rw [Nat.sub_zero] at d3
  refine ⟨m', ?_, d2, fun i hi => (d3 i hi).trans (congrArg Int32.toInt64 ?_)⟩
  · unfold D243
    exact ob (r208 (w := 3) rfl rfl t6 (by decide)) d1
  · match i, hi with
    | 0, _ => rfl
    | 1, _ => rfl
    | 2, _ => rfl
    | 3, _ => rfl
    | 4, _ => rfl
    | 5, _ => rfl
    | 6, _ => rfl
    | 7, _ => rfl
    | 8, _ => rfl
    | 9, _ => rfl
    | 10, _ => rfl
    | 11, _ => rfl
    | 12, _ => rfl
    | i + 13, z => omega
/-- houseBy -/
theorem r245_8 (hF : 500 ≤ F) {r : Nat} (hr : r < 6) {cs : cLs} {t : Nat} (I : vI s) (ht : (t : Int) < (s 2).toInt) : ∀ (f : Nat) {m : xS} {h : Nat} {a : Int32 × Int64}, m.1 80 = s → cAll m r cs → (h : Int) ≤ (s 0).toInt → 7 - h < f → ∃ m', D245_8 F f (Int32.ofNat r) (Int32.ofNat t) a.1 a.2 (Int32.ofNat h) m = some ((lbh s (smR cs s t) t h ((s 0).toInt.toNat - h) a).1, m') ∧ kg m m' := by
  have n6 := I_n6 I
  have t6 : t < 6 := by have := I_nt I; omega
  intro f
  induction f with
  | zero => intro m h a _ _ _ l; omega
  | succ f ih =>
    intro m h a es C hh l
    have eh := nJ (n := h) (by omega)
    unfold D245_8
    rw [es]
    by_cases q : (s 0).toInt ≤ (h : Int)
    · rw [show (s 0).toInt.toNat - h = 0 by omega]
      exact ⟨m, oT (zc.trans (decide_eq_true (by omega))) rfl, kg_r m⟩
    · have h6 : h < 6 := by omega
      rw [show (s 0).toInt.toNat - h = ((s 0).toInt.toNat - (h + 1)) + 1 by omega]
      show ∃ m' : xS, _ = some ((lbh s (smR cs s t) t (h + 1) ((s 0).toInt.toNat - (h + 1)) (if pcl s t h = true ∧ a.2.toInt < (smR cs s t h).toInt then (Int32.ofNat h, smR cs s t h) else a)).1, m') ∧ _
      have g : zcmp .ge (Int32.ofNat h) (s 0) = false := zc.trans (decide_eq_false (by omega))
      have r2 : D222 F (Int32.ofNat t) (Int32.ofNat h) m = some (pB (pcl s t h), m) := by
        have z := r222 (F := F) (m := m) (by rw [es]; exact I) (t := t) (h := h) rfl rfl (by rw [es]; exact ht) h6
        rw [es] at z
        exact z
      have nx : ∀ {m1 : xS} {b : Int32 × Int64}, kg m m1 → ∃ m', D245_64 F (D245_8 F f) (Int32.ofNat r) (Int32.ofNat t) b.1 b.2 (Int32.ofNat h) m1 = some ((lbh s (smR cs s t) t (h + 1) ((s 0).toInt.toNat - (h + 1)) b).1, m') ∧ kg m m' := fun {m1 b} k => by
        have row : ∀ i, i ≠ 70 → m1.1 i = m.1 i := fun i z => funext fun j => k.1 i j (fun y => z y.1)
        obtain ⟨m', d1, d2⟩ := ih (m := m1) (h := h + 1) (a := b) ((row 80 (by decide)).trans es) (cAll_f (row 72 (by decide)) (row 74 (by decide)) (row 75 (by decide)) C) (by omega) (by omega)
        refine ⟨m', ?_, kg_t k d2⟩
        unfold D245_64
        rw [(o1 (n := h) (by omega)).2.2]
        exact d1
      by_cases c : pcl s t h = true
      · obtain ⟨m1, z1, z2, z3⟩ := r243 (F := F) (m := m) hF (t := t) (h := h) (by rw [es]; exact I) (by rw [es]; exact ht) h6
        rw [es] at z3
        have C1 : cAll m1 r cs := cAll_f (congrFun z2.1 72) (congrFun z2.1 74) (congrFun z2.1 75) C
        obtain ⟨m2, y1, y2⟩ := r244 (F := F) (m := m1) (v1 := Int32.ofNat r) hF hr rfl C1
        have e : sumE (m1.2 79) cs = smR cs s t h := sumE_w z3 (cAll_wf C1)
        rw [e] at y1
        have k2 : kg m m2 := kg_t (kg_w z2) (kg_l y2)
        have g5 := (lgS (smR cs s t h) a.2).2.1
        by_cases d : a.2.toInt < (smR cs s t h).toInt
        · have hS : (if pcl s t h = true ∧ a.2.toInt < (smR cs s t h).toInt then (Int32.ofNat h, smR cs s t h) else a) = (Int32.ofNat h, smR cs s t h) := if_pos ⟨c, d⟩
          rw [hS]
          obtain ⟨m', d1, d2⟩ := nx (m1 := m2) (b := (Int32.ofNat h, smR cs s t h)) k2
          exact ⟨m', oF g (ob r2 (oT (pB2.trans c) (ob z1 (ob y1 (oT (g5.trans (decide_eq_true d)) d1))))), d2⟩
        · have hS : (if pcl s t h = true ∧ a.2.toInt < (smR cs s t h).toInt then (Int32.ofNat h, smR cs s t h) else a) = a := if_neg (fun z => d z.2)
          rw [hS]
          obtain ⟨m', d1, d2⟩ := nx (m1 := m2) (b := a) k2
          exact ⟨m', oF g (ob r2 (oT (pB2.trans c) (ob z1 (ob y1 (oF (g5.trans (decide_eq_false d)) d1))))), d2⟩
      · have hS : (if pcl s t h = true ∧ a.2.toInt < (smR cs s t h).toInt then (Int32.ofNat h, smR cs s t h) else a) = a := if_neg (fun z => c z.1)
        rw [hS]
        have c' : pcl s t h = false := by simpa using c
        obtain ⟨m', d1, d2⟩ := nx (m1 := m) (b := a) (kg_r m)
        exact ⟨m', oF g (ob r2 (oF (pB2.trans c') d1)), d2⟩
theorem r245 (hF : 500 ≤ F) {r : Nat} (hr : r < 6) {cs : cLs} {t : Nat} (es : m.1 80 = s) (I : vI s) (ht : (t : Int) < (s 2).toInt) (C : cAll m r cs) : ∃ m', D245 F (Int32.ofNat r) (Int32.ofNat t) m = some ((lbh s (smR cs s t) t 0 (s 0).toInt.toNat (-1, 0)).1, m') ∧ kg m m' := by
  have n0 := I_n0 I
  have z := r245_8 (F := F) hF hr (cs := cs) I ht F (m := m) (h := 0) (a := (-1, 0)) es C (by omega) (by omega)
  rw [Nat.sub_zero] at z
  unfold D245
  exact z
/-- pay, as works are done -/
def fpy : Nat → Nat → (Nat → Int32) → Int32 → Int32
  | _, 0, _, v => v
  | w, n + 1, s, v => fpy (w + 1) n (if pcd s w = true then pwk s w else s) (if pcd s w = true then v + s (124 + 4 * w + 3) else v)
theorem fpy_e : ∀ (n : Nat) {w : Nat} {s : Nat → Int32} {v : Int32}, fpy w n s v = v + (fwk w n s 5 - s 5)
  | 0, w, s, v => by
    show v = v + (s 5 - s 5)
    rw [Int32.sub_self, Int32.add_zero]
  | n + 1, w, s, v => by
    show fpy (w + 1) n (if pcd s w = true then pwk s w else s) (if pcd s w = true then v + s (124 + 4 * w + 3) else v) = v + (fwk (w + 1) n (if pcd s w = true then pwk s w else s) 5 - s 5)
    rw [fpy_e n]
    by_cases z : pcd s w = true
    · rw [if_pos z, if_pos z]
      have e5 : pwk s w 5 = s 5 + s (124 + 4 * w + 3) := cup_s _ _ _
      rw [e5]
      generalize fwk (w + 1) n (pwk s w) 5 = x
      generalize s (124 + 4 * w + 3) = y
      generalize s 5 = u
      grind
    · rw [if_neg z, if_neg z]
theorem r246_4 (hF : 500 ≤ F) : ∀ (f : Nat) {m : xS} {w : Nat} {v : Int32}, vI (m.1 80) → (w : Int) ≤ (m.1 80 3).toInt → 7 - w < f → D246_4 F f v (Int32.ofNat w) m = some (fpy w ((m.1 80 3).toInt.toNat - w) (m.1 80) v, xr m 80 (fwk w ((m.1 80 3).toInt.toNat - w) (m.1 80))) := by
  intro f
  induction f with
  | zero => intro m w v _ _ l; omega
  | succ f ih =>
    intro m w v I hw l
    have n3 := I_nw I
    have ew := nJ (n := w) (by omega)
    unfold D246_4
    by_cases q : (m.1 80 3).toInt ≤ (w : Int)
    · rw [show (m.1 80 3).toInt.toNat - w = 0 by omega]
      refine oT (zc.trans (decide_eq_true (by omega))) ?_
      show _ = some (v, xr m 80 (m.1 80))
      rw [xr_id]
    · rw [show (m.1 80 3).toInt.toNat - w = ((m.1 80 3).toInt.toNat - (w + 1)) + 1 by omega]
      have w3 : (w : Int) < (m.1 80 3).toInt := by omega
      have w6 : w < 6 := by omega
      have g : zcmp .ge (Int32.ofNat w) (m.1 80 3) = false := zc.trans (decide_eq_false (by omega))
      show _ = some (fpy (w + 1) ((m.1 80 3).toInt.toNat - (w + 1)) (if pcd (m.1 80) w = true then pwk (m.1 80) w else m.1 80) (if pcd (m.1 80) w = true then v + m.1 80 (124 + 4 * w + 3) else v), xr m 80 (fwk (w + 1) ((m.1 80 3).toInt.toNat - (w + 1)) (if pcd (m.1 80) w = true then pwk (m.1 80) w else m.1 80)))
      by_cases c : pcd (m.1 80) w = true
      · have hP : (if pcd (m.1 80) w = true then pwk (m.1 80) w else m.1 80) = pwk (m.1 80) w := if_pos c
        have hV : (if pcd (m.1 80) w = true then v + m.1 80 (124 + 4 * w + 3) else v) = v + m.1 80 (124 + 4 * w + 3) := if_pos c
        rw [hP, hV]
        have e3 : pwk (m.1 80) w 3 = m.1 80 3 := pwk_k (by decide)
        have z := ih (m := xr m 80 (pwk (m.1 80) w)) (w := w + 1) (v := v + m.1 80 (124 + 4 * w + 3)) (by rw [xr_s]; exact I_wk I w3) (by rw [xr_s, e3]; omega) (by omega)
        rw [xr_s, e3, xr_xr] at z
        refine oF g (ob (r216 hF (I_nt I) rfl w6) (oF (pB1.trans (by rw [c]; rfl)) (ob (r225 rfl w6) ?_)))
        unfold D246_32
        rw [(o1 (n := w) (by omega)).2.2]
        exact z
      · have hP : (if pcd (m.1 80) w = true then pwk (m.1 80) w else m.1 80) = m.1 80 := if_neg c
        have hV : (if pcd (m.1 80) w = true then v + m.1 80 (124 + 4 * w + 3) else v) = v := if_neg c
        rw [hP, hV]
        have c0 : pcd (m.1 80) w = false := by simpa using c
        have z := ih (m := m) (w := w + 1) (v := v) I (by omega) (by omega)
        refine oF g (ob (r216 hF (I_nt I) rfl w6) (oT (pB1.trans (by rw [c0]; rfl)) ?_))
        unfold D246_32
        rw [(o1 (n := w) (by omega)).2.2, Int32.add_zero]
        exact z
theorem r246 (hF : 500 ≤ F) (I : vI (m.1 80)) : D246 F m = some (fwk 0 (m.1 80 3).toInt.toNat (m.1 80) 5 - m.1 80 5, xr m 80 (fwk 0 (m.1 80 3).toInt.toNat (m.1 80))) := by
  have n3 := I_nw I
  have z := r246_4 (F := F) hF F (m := m) (w := 0) (v := 0) I (by omega) (by omega)
  rw [Nat.sub_zero, fpy_e, Int32.zero_add] at z
  unfold D246
  exact z
/-- what the reference's days may change -/
def kgd (m m' : xS) : Prop := (∀ i j, i ≠ 80 → ¬ (i = 70 ∧ j = 20) → m'.1 i j = m.1 i j) ∧ ∀ i j, i ≠ 78 → i ≠ 79 → m'.2 i j = m.2 i j
theorem kgd_t {a b c : xS} (h1 : kgd a b) (h2 : kgd b c) : kgd a c := ⟨fun i j h k => (h2.1 i j h k).trans (h1.1 i j h k), fun i j h k => (h2.2 i j h k).trans (h1.2 i j h k)⟩
theorem kgd_g {a b : xS} (h : kg a b) : kgd a b := ⟨fun i j _ k => h.1 i j k, h.2⟩
theorem kgd_x {a : xS} {c : Nat → Int32} : kgd a (xr a 80 c) := ⟨fun i j h _ => by rw [xr_o h], fun _ _ _ _ => rfl⟩
theorem cAll_k {m' : xS} {r : Nat} {cs : cLs} (k : kgd m m') (h : cAll m r cs) : cAll m' r cs := cAll_f (funext fun j => k.1 72 j (by decide) (fun z => absurd z.1 (by decide))) (funext fun j => k.1 74 j (by decide) (fun z => absurd z.1 (by decide))) (funext fun j => k.1 75 j (by decide) (fun z => absurd z.1 (by decide))) h
/-- goesBy -/
theorem r247_2 (hF : 500 ≤ F) {r : Nat} (hr : r < 6) {cs : cLs} : ∀ (f : Nat) {s : Nat → Int32} {m : xS} {t : Nat}, m.1 80 = s → vI s → (s 4).toInt < 2000 → cAll m r cs → (t : Int) ≤ (s 2).toInt → 7 - t < f → ∃ m', D247_2 F f (Int32.ofNat r) (Int32.ofNat t) m = some (fwk 0 (s 3).toInt.toNat (lall (smR cs) t ((s 2).toInt.toNat - t) s) 5 - lall (smR cs) t ((s 2).toInt.toNat - t) s 5, m') ∧ m'.1 80 = pdy (fwk 0 (s 3).toInt.toNat (lall (smR cs) t ((s 2).toInt.toNat - t) s)) ∧ kgd m m' := by
  intro f
  induction f with
  | zero => intro s m t _ _ _ _ _ l; omega
  | succ f ih =>
    intro s m t es I d9 C ht l
    have n2 := I_nt I
    have n6 := I_n6 I
    have n3 := I_nw I
    have et := nJ (n := t) (by omega)
    unfold D247_2
    rw [es]
    by_cases q : (s 2).toInt ≤ (t : Int)
    · rw [show (s 2).toInt.toNat - t = 0 by omega]
      show ∃ m' : xS, _ = some (fwk 0 (s 3).toInt.toNat s 5 - s 5, m') ∧ m'.1 80 = pdy (fwk 0 (s 3).toInt.toNat s) ∧ _
      have z := r246 (F := F) (m := m) hF (by rw [es]; exact I)
      rw [es] at z
      have K := fwk_I (s 3).toInt.toNat (w := 0) I (by omega)
      have y := r233 (F := F) (m := xr m 80 (fwk 0 (s 3).toInt.toNat s)) hF (by rw [xr_s]; exact K)
      rw [xr_s, xr_xr] at y
      exact ⟨xr m 80 (pdy (fwk 0 (s 3).toInt.toNat s)), oT (zc.trans (decide_eq_true (by omega))) (ob z (ob y rfl)), xr_s _ _ _, kgd_x⟩
    · rw [show (s 2).toInt.toNat - t = ((s 2).toInt.toNat - (t + 1)) + 1 by omega]
      have t2 : (t : Int) < (s 2).toInt := by omega
      have g : zcmp .ge (Int32.ofNat t) (s 2) = false := zc.trans (decide_eq_false (by omega))
      obtain ⟨m1, z1, z2⟩ := r245 (F := F) hF hr es I t2 C
      have ok := lnd1_ok (sm := smR cs) (t := t) I
      have es1 : m1.1 80 = s := (funext fun j => z2.1 80 j (fun z => absurd z.1 (by decide))).trans es
      show ∃ m' : xS, _ = some (fwk 0 (s 3).toInt.toNat (lall (smR cs) (t + 1) ((s 2).toInt.toNat - (t + 1)) (lnd1 (smR cs) s t)) 5 - lall (smR cs) (t + 1) ((s 2).toInt.toNat - (t + 1)) (lnd1 (smR cs) s t) 5, m') ∧ m'.1 80 = pdy (fwk 0 (s 3).toInt.toNat (lall (smR cs) (t + 1) ((s 2).toInt.toNat - (t + 1)) (lnd1 (smR cs) s t))) ∧ _
      have J : vI (lnd1 (smR cs) s t) := ldt_I I t2 ok
      have e2 : lnd1 (smR cs) s t 2 = s 2 := ldt_k (by decide)
      have e3 : lnd1 (smR cs) s t 3 = s 3 := ldt_k (by decide)
      have e4 : lnd1 (smR cs) s t 4 = s 4 := ldt_k (by decide)
      have nx : ∀ {m2 : xS} {v3 : Int32}, m2.1 80 = lnd1 (smR cs) s t → kgd m m2 → ∃ m', D247_29 F (D247_2 F f) (Int32.ofNat r) (Int32.ofNat t) v3 m2 = some (fwk 0 (s 3).toInt.toNat (lall (smR cs) (t + 1) ((s 2).toInt.toNat - (t + 1)) (lnd1 (smR cs) s t)) 5 - lall (smR cs) (t + 1) ((s 2).toInt.toNat - (t + 1)) (lnd1 (smR cs) s t) 5, m') ∧ m'.1 80 = pdy (fwk 0 (s 3).toInt.toNat (lall (smR cs) (t + 1) ((s 2).toInt.toNat - (t + 1)) (lnd1 (smR cs) s t))) ∧ kgd m m' := fun {m2 v3} e k => by
        obtain ⟨m', d1, d2, d3⟩ := ih (s := lnd1 (smR cs) s t) (m := m2) (t := t + 1) e J (by rw [e4]; exact d9) (cAll_k k C) (by rw [e2]; omega) (by omega)
        rw [e2, e3] at d1 d2
        refine ⟨m', ?_, d2, kgd_t k d3⟩
        unfold D247_29
        rw [(o1 (n := t) (by omega)).2.2]
        exact d1
      generalize hb : (lbh s (smR cs s t) t 0 (s 0).toInt.toNat (-1, 0)).1 = b at z1 ok
      have eld : lnd1 (smR cs) s t = ldt s t b := by
        unfold lnd1
        rw [hb]
      rcases ok with e | ⟨k, e, k1, k2⟩
      · subst e
        obtain ⟨m', d1, d2, d3⟩ := nx (m2 := m1) (v3 := -1) (by rw [es1, eld]; unfold ldt; rw [if_pos rfl]) (kgd_g z2)
        exact ⟨m', oF g (ob z1 (oT (show zcmp .lt (-1 : Int32) 0 = true by decide) d1)), d2, d3⟩
      · have ek := nJ (n := k) (by omega)
        subst e
        have z3 := r223 (F := F) (m := m1) (by rw [es1]; exact I) (t := t) (h := k) rfl rfl (by rw [es1]; exact t2) (by omega)
        rw [es1] at z3
        have e1 : (-1 : Int32).toInt = -1 := rfl
        obtain ⟨m', d1, d2, d3⟩ := nx (m2 := xr m1 80 (pld s t k)) (v3 := Int32.ofNat k) (by
          rw [xr_s, eld]
          unfold ldt
          rw [if_neg (fun z => by
            have z := congrArg Int32.toInt z
            rw [ek] at z
            omega), ek, Int.toNat_natCast]) (kgd_t (kgd_g z2) kgd_x)
        have e0 : (0 : Int32).toInt = 0 := rfl
        exact ⟨m', oF g (ob z1 (oF (zcl.trans (decide_eq_false (by rw [ek, e0]; omega))) (ob z3 d1))), d2, d3⟩
theorem r247 (hF : 500 ≤ F) {r : Nat} (hr : r < 6) {cs : cLs} (es : m.1 80 = s) (I : vI s) (d9 : (s 4).toInt < 2000) (C : cAll m r cs) : ∃ m', D247 F (Int32.ofNat r) m = some (day1 (smR cs) s 5 - s 5, m') ∧ m'.1 80 = day1 (smR cs) s ∧ kgd m m' := by
  have n2 := I_nt I
  have n3 := I_nw I
  obtain ⟨m', z1, z2, z3⟩ := r247_2 (F := F) hF hr (cs := cs) F (s := s) (m := m) (t := 0) es I d9 C (by omega) (by omega)
  rw [Nat.sub_zero] at z1 z2
  have J := lall_I (sm := smR cs) (s 2).toInt.toNat (t := 0) I (by omega)
  have K := fwk_I (s 3).toInt.toNat (w := 0) J (by rw [lall_k _ (by decide)]; omega)
  have e5 : day1 (smR cs) s 5 = fwk 0 (s 3).toInt.toNat (lall (smR cs) 0 (s 2).toInt.toNat s) 5 := pdy_o K (fun i hi => by omega) (by decide)
  have e6 : lall (smR cs) 0 (s 2).toInt.toNat s 5 = s 5 := lall_k _ (by decide)
  rw [e6, ← e5] at z1
  refine ⟨m', ?_, z2, z3⟩
  unfold D247
  exact z1
/-- run: its loop -/
theorem r248_53 (hF : 500 ≤ F) {r : Nat} (hr : r < 6) {cs : cLs} {v2 : Int32} {n : Nat} (h2 : v2 = Int32.ofNat n) (n60 : n ≤ 60) : ∀ (f : Nat) {s : Nat → Int32} {m : xS} {i : Nat} {v : Int32}, m.1 80 = s → vI s → (s 4).toInt + ((n - i : Nat) : Int) ≤ 999 → cAll m r cs → i ≤ n → n - i < f → ∃ m', D248_53 F f (Int32.ofNat r) v2 v (Int32.ofNat i) m = some (v + (rdays (smR cs) (n - i) s 5 - s 5), m') ∧ m'.1 80 = rdays (smR cs) (n - i) s ∧ kgd m m' := by
  subst h2
  have en := nJ (n := n) (by omega)
  intro f
  induction f with
  | zero => intro s m i v _ _ _ _ _ l; omega
  | succ f ih =>
    intro s m i v es I hd C hi l
    have ei := nJ (n := i) (by omega)
    unfold D248_53
    by_cases q : n ≤ i
    · rw [show n - i = 0 by omega]
      refine ⟨m, oT (zc.trans (decide_eq_true (by omega))) ?_, es, kgd_g (kg_r m)⟩
      show _ = some (v + (s 5 - s 5), m)
      rw [Int32.sub_self, Int32.add_zero]
    · rw [show n - i = (n - (i + 1)) + 1 by omega]
      obtain ⟨m1, z1, z2, z3⟩ := r247 (F := F) hF hr es I (by omega) C
      have dd := day1_d (sm := smR cs) I (by omega)
      obtain ⟨m', d1, d2, d3⟩ := ih (s := day1 (smR cs) s) (m := m1) (i := i + 1) (v := v + (day1 (smR cs) s 5 - s 5)) z2 (day1_I I (by omega)) (by rw [dd]; omega) (cAll_k z3 C) (by omega) (by omega)
      refine ⟨m', oF (zc.trans (decide_eq_false (by omega))) (ob z1 ?_), d2, kgd_t z3 d3⟩
      rw [(o1 (n := i) (by omega)).2.2]
      refine d1.trans ?_
      show some (_, m') = some (v + (rdays (smR cs) (n - (i + 1)) (day1 (smR cs) s) 5 - s 5), m')
      refine congrArg (fun z => some (z, m')) ?_
      generalize rdays (smR cs) (n - (i + 1)) (day1 (smR cs) s) 5 = x
      generalize day1 (smR cs) s 5 = y
      generalize s 5 = u
      grind
end PRRN
