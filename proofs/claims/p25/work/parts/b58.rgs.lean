/-! rings, as a pair: how many houses stand in one, and the first of the shortest. -/
/-- owes by some row of n + 1 steps -/
def owp (s : Nat → Int32) (N : Nat) : Nat → Nat → Nat → Prop
  | 0, a, d => d < N ∧ pow s a d = true
  | n + 1, a, d => ∃ e, owp s N n a e ∧ d < N ∧ pow s e d = true
def owr (s : Nat → Int32) (N a d : Nat) : Prop := ∃ n, owp s N n a d
section POWR
variable {s : Nat → Int32} {N : Nat}
theorem owp_N : ∀ {n a d : Nat}, owp s N n a d → d < N
  | 0, _, _, h => h.1
  | _ + 1, _, _, h => by
    obtain ⟨e, -, h1, -⟩ := h
    exact h1
theorem owp_t {n a e : Nat} (h1 : owp s N n a e) : ∀ {k d : Nat}, owp s N k e d → owp s N (n + k + 1) a d
  | 0, _, h => ⟨e, h1, h⟩
  | k + 1, _, h => by
    obtain ⟨x, y, z⟩ := h
    exact ⟨x, owp_t h1 y, z⟩
theorem owr_t {a e d : Nat} (h1 : owr s N a e) (h2 : owr s N e d) : owr s N a d := by
  obtain ⟨n, h1⟩ := h1
  obtain ⟨k, h2⟩ := h2
  exact ⟨_, owp_t h1 h2⟩
/-- the class: by one house more -/
def wst (k : Nat) (C : Nat → Nat) : Nat → Nat := fun a => if (C a).testBit k = true then C a ||| C k else C a
def wal : Nat → Nat → (Nat → Nat) → Nat → Nat
  | _, 0, C => C
  | k, n + 1, C => wal (k + 1) n (wst k C)
def wIv (s : Nat → Int32) (N k : Nat) (C : Nat → Nat) : Prop := (∀ a, a < N → ∀ d, (C a).testBit d = true → d < N ∧ owr s N a d) ∧ (∀ a d, a < N → d < N → pow s a d = true → (C a).testBit d = true) ∧ ∀ j, j < k → ∀ a, a < N → (C a).testBit j = true → ∀ d, (C j).testBit d = true → (C a).testBit d = true
theorem wst_t {k a d : Nat} {C : Nat → Nat} : (wst k C a).testBit d = true ↔ (C a).testBit d = true ∨ ((C a).testBit k = true ∧ (C k).testBit d = true) := by
  unfold wst
  by_cases c : (C a).testBit k = true
  · rw [if_pos c, Nat.testBit_or, Bool.or_eq_true]
    exact ⟨fun z => z.imp_right (fun y => ⟨c, y⟩), fun z => z.imp_right (fun y => y.2)⟩
  · rw [if_neg c]
    exact ⟨Or.inl, fun z => z.elim id (fun y => absurd y.1 c)⟩
theorem wIv_n {k : Nat} {C : Nat → Nat} (hk : k < N) (h : wIv s N k C) : wIv s N (k + 1) (wst k C) := by
  obtain ⟨h1, h2, h3⟩ := h
  refine ⟨fun a ha d z => ?_, fun a d ha hd z => wst_t.mpr (Or.inl (h2 a d ha hd z)), fun j hj a ha z d y => ?_⟩
  · rcases wst_t.mp z with z | ⟨z1, z2⟩
    · exact h1 a ha d z
    · exact ⟨(h1 k hk d z2).1, owr_t (h1 a ha k z1).2 (h1 k hk d z2).2⟩
  · rw [wst_t] at z y ⊢
    by_cases e : j = k
    · subst e
      have zk : (C a).testBit j = true := z.elim id (fun q => q.1)
      exact Or.inr ⟨zk, y.elim id (fun q => q.2)⟩
    · have jk : j < k := by omega
      rcases z with z | ⟨z1, z2⟩
      · rcases y with y | ⟨y1, y2⟩
        · exact Or.inl (h3 j jk a ha z d y)
        · exact Or.inr ⟨h3 j jk a ha z k y1, y2⟩
      · rcases y with y | ⟨y1, y2⟩
        · exact Or.inr ⟨z1, h3 j jk k hk z2 d y⟩
        · exact Or.inr ⟨z1, y2⟩
theorem wal_I : ∀ {n k : Nat} {C : Nat → Nat}, k + n = N → wIv s N k C → wIv s N N (wal k n C)
  | 0, k, C, e, h => by
    have : k = N := by omega
    subst this
    exact h
  | n + 1, k, C, e, h => wal_I (n := n) (k := k + 1) (by omega) (wIv_n (by omega) h)
theorem wIv_o {C : Nat → Nat} (h : wIv s N N C) {a d : Nat} (ha : a < N) : (C a).testBit d = true ↔ owr s N a d := by
  constructor
  · exact fun z => (h.1 a ha d z).2
  · rintro ⟨n, z⟩
    have key : ∀ {n d : Nat}, owp s N n a d → (C a).testBit d = true := fun {n} => by
      induction n with
      | zero => exact fun {d} z => h.2.1 a d ha z.1 z.2
      | succ n ih =>
        intro d z
        obtain ⟨e, z1, z2, z3⟩ := z
        exact h.2.2 e (owp_N z1) a ha (ih z1) d (h.2.1 e d (owp_N z1) z2 z3)
    exact key z
/-- the reference: from a set on -/
def rin (s : Nat → Int32) (e : Nat) : Nat → Nat → Nat → Nat
  | _, 0, r => r
  | d, n + 1, r => rin s e (d + 1) n (if ¬ e = d ∧ pow s e d = true then r ||| 2 ^ d else r)
def rou (s : Nat → Int32) (N W : Nat) : Nat → Nat → Nat → Nat
  | _, 0, r => r
  | e, n + 1, r => rou s N W (e + 1) n (if W.testBit e = true then rin s e 0 N r else r)
def rrd (s : Nat → Int32) (N v : Nat) : Nat → Nat → Nat → Nat
  | _, 0, r => r
  | k, n + 1, r => rrd s N v (k + 1) n (rou s N (if k = 0 then 2 ^ v else r) 0 N r)
theorem rin_t {e : Nat} : ∀ {n h r d : Nat}, (rin s e h n r).testBit d = true ↔ r.testBit d = true ∨ (h ≤ d ∧ d < h + n ∧ ¬ e = d ∧ pow s e d = true)
  | 0, h, r, d => ⟨fun z => Or.inl z, fun z => z.elim id (fun ⟨h1, h2, _⟩ => by omega)⟩
  | n + 1, h, r, d => by
    show (rin s e (h + 1) n (if ¬ e = h ∧ pow s e h = true then r ||| 2 ^ h else r)).testBit d = true ↔ _
    rw [rin_t]
    by_cases c : ¬ e = h ∧ pow s e h = true
    · rw [if_pos c, Nat.testBit_or, Nat.testBit_two_pow, Bool.or_eq_true, decide_eq_true_eq]
      constructor
      · rintro ((z | z) | ⟨h1, h2, h3⟩)
        · exact Or.inl z
        · subst z
          exact Or.inr ⟨Nat.le_refl _, by omega, c⟩
        · exact Or.inr ⟨by omega, by omega, h3⟩
      · rintro (z | ⟨h1, h2, h3⟩)
        · exact Or.inl (Or.inl z)
        · by_cases y : h = d
          · exact Or.inl (Or.inr y)
          · exact Or.inr ⟨by omega, by omega, h3⟩
    · rw [if_neg c]
      constructor
      · rintro (z | ⟨h1, h2, h3⟩)
        · exact Or.inl z
        · exact Or.inr ⟨by omega, by omega, h3⟩
      · rintro (z | ⟨h1, h2, h3⟩)
        · exact Or.inl z
        · by_cases y : h = d
          · subst y
            exact absurd h3 c
          · exact Or.inr ⟨by omega, by omega, h3⟩
theorem rou_t {W : Nat} : ∀ {n h r d : Nat}, (rou s N W h n r).testBit d = true ↔ r.testBit d = true ∨ ∃ e, h ≤ e ∧ e < h + n ∧ W.testBit e = true ∧ d < N ∧ ¬ e = d ∧ pow s e d = true
  | 0, h, r, d => ⟨fun z => Or.inl z, fun z => z.elim id (fun ⟨e, h1, h2, _⟩ => by omega)⟩
  | n + 1, h, r, d => by
    show (rou s N W (h + 1) n (if W.testBit h = true then rin s h 0 N r else r)).testBit d = true ↔ _
    rw [rou_t]
    by_cases c : W.testBit h = true
    · rw [if_pos c, rin_t]
      constructor
      · rintro ((z | ⟨_, h2, h3⟩) | ⟨e, h1, h2, h3⟩)
        · exact Or.inl z
        · exact Or.inr ⟨h, Nat.le_refl _, by omega, c, by omega, h3⟩
        · exact Or.inr ⟨e, by omega, by omega, h3⟩
      · rintro (z | ⟨e, h1, h2, h3, h4, h5⟩)
        · exact Or.inl (Or.inl z)
        · by_cases y : e = h
          · subst y
            exact Or.inl (Or.inr ⟨Nat.zero_le _, by omega, h5⟩)
          · exact Or.inr ⟨e, by omega, by omega, h3, h4, h5⟩
    · rw [if_neg c]
      constructor
      · rintro (z | ⟨e, h1, h2, h3⟩)
        · exact Or.inl z
        · exact Or.inr ⟨e, by omega, by omega, h3⟩
      · rintro (z | ⟨e, h1, h2, h3⟩)
        · exact Or.inl z
        · by_cases y : e = h
          · subst y
            exact absurd h3.1 c
          · exact Or.inr ⟨e, by omega, by omega, h3⟩
theorem rin_b {e : Nat} : ∀ {n h r : Nat}, h + n ≤ 6 → r < 64 → rin s e h n r < 64
  | 0, _, _, _, hr => hr
  | n + 1, h, r, hn, hr => by
    refine rin_b (n := n) (by omega) ?_
    split
    · exact Nat.or_lt_two_pow (n := 6) hr (Nat.pow_lt_pow_right (by decide) (by omega))
    · exact hr
theorem rou_b (hN : N ≤ 6) {W : Nat} : ∀ {n h r : Nat}, r < 64 → rou s N W h n r < 64
  | 0, _, _, hr => hr
  | n + 1, h, r, hr => by
    refine rou_b hN (n := n) ?_
    split
    · exact rin_b (by omega) hr
    · exact hr
def gst2 (s : Nat → Int32) (N : Nat) : Nat → Nat → Nat
  | 0, R => R
  | n + 1, R => rou s N (gst2 s N n R) 0 N (gst2 s N n R)
theorem gst2_b (hN : N ≤ 6) {R : Nat} (h : R < 64) : ∀ n, gst2 s N n R < 64
  | 0 => h
  | n + 1 => rou_b hN (gst2_b hN h n)
theorem rrd_g {v : Nat} : ∀ {n k j R : Nat}, 1 ≤ k → rrd s N v k n (gst2 s N j R) = gst2 s N (j + n) R
  | 0, _, _, _, _ => rfl
  | n + 1, k, j, R, hk => by
    show rrd s N v (k + 1) n (rou s N (if k = 0 then 2 ^ v else gst2 s N j R) 0 N (gst2 s N j R)) = _
    rw [if_neg (by omega)]
    have z := rrd_g (v := v) (n := n) (k := k + 1) (j := j + 1) (R := R) (by omega)
    rw [show j + 1 + n = j + (n + 1) by omega] at z
    exact z
theorem pc6_lt {R Q : Nat} (hR : R < 64) (hQ : Q < 64) (s : R &&& Q = R) (ne : R ≠ Q) : pc6 R < pc6 Q ∧ pc6 Q ≤ 6 := by
  have key : (List.range 64).all (fun R => (List.range 64).all (fun Q => !(R &&& Q == R) || (R == Q || (decide (pc6 R < pc6 Q) && decide (pc6 Q ≤ 6))))) = true := by decide +kernel
  have k := List.all_eq_true.mp (List.all_eq_true.mp key R (List.mem_range.mpr hR)) Q (List.mem_range.mpr hQ)
  rw [s, beq_self_eq_true, Bool.not_true, Bool.false_or, beq_eq_false_iff_ne.mpr ne, Bool.false_or, Bool.and_eq_true, decide_eq_true_eq, decide_eq_true_eq] at k
  exact k
theorem pc6_0 {R : Nat} (hR : R < 64) (ne : R ≠ 0) : 1 ≤ pc6 R := by
  have k := (pc6_lt (R := 0) (Q := R) (by decide) hR (Nat.zero_and _) (fun z => ne z.symm)).1
  omega
theorem pc6_6 {R : Nat} (hR : R < 64) : pc6 R ≤ 6 := by
  unfold pc6
  omega
theorem gst2_s {R : Nat} (n : Nat) : gst2 s N n R &&& gst2 s N (n + 1) R = gst2 s N n R := by
  apply Nat.eq_of_testBit_eq
  intro d
  rw [Nat.testBit_and]
  by_cases c : (gst2 s N n R).testBit d = true
  · have y : (gst2 s N (n + 1) R).testBit d = true := rou_t.mpr (Or.inl c)
    rw [c, y]
    rfl
  · rw [show (gst2 s N n R).testBit d = false by simpa using c, Bool.false_and]
theorem gst2_f (hN : N ≤ 6) {R : Nat} (h : R < 64) : ∀ n, gst2 s N n R = gst2 s N (n + 1) R ∨ pc6 R + n ≤ pc6 (gst2 s N n R)
  | 0 => Or.inr (Nat.le_refl _)
  | n + 1 => by
    rcases gst2_f hN h n with e | e
    · left
      show rou s N (gst2 s N n R) 0 N (gst2 s N n R) = rou s N (gst2 s N (n + 1) R) 0 N (gst2 s N (n + 1) R)
      rw [← e]
    · by_cases y : gst2 s N n R = gst2 s N (n + 1) R
      · left
        show rou s N (gst2 s N n R) 0 N (gst2 s N n R) = rou s N (gst2 s N (n + 1) R) 0 N (gst2 s N (n + 1) R)
        rw [← y]
      · right
        have := (pc6_lt (gst2_b hN h n) (gst2_b hN h (n + 1)) (gst2_s n) y).1
        omega
theorem gst2_z : ∀ n, gst2 s N n 0 = 0
  | 0 => rfl
  | n + 1 => by
    show rou s N (gst2 s N n 0) 0 N (gst2 s N n 0) = 0
    rw [gst2_z n]
    apply Nat.eq_of_testBit_eq
    intro d
    rw [Nat.zero_testBit]
    rw [← Bool.not_eq_true]
    intro z
    rcases rou_t.mp z with z | ⟨e, -, -, z, -⟩
    · rw [Nat.zero_testBit] at z
      cases z
    · rw [Nat.zero_testBit] at z
      cases z
theorem pow_d (I : vI s) {a : Nat} (ha : a < 6) : pow s a a = false := by
  unfold pow
  rw [(I.2.2.2.1 a ha).2]
  rfl
/-- after seven rounds all is reached -/
theorem rrd_o (I : vI s) (hN : N ≤ 6) {v d : Nat} (hv : v < N) : (rrd s N v 0 7 0).testBit d = true ↔ owr s N v d := by
  have e1 : rrd s N v 0 7 0 = gst2 s N 6 (rou s N (2 ^ v) 0 N 0) := by
    show rrd s N v 1 6 (rou s N (if 0 = 0 then 2 ^ v else 0) 0 N 0) = _
    rw [if_pos rfl]
    exact (rrd_g (v := v) (n := 6) (k := 1) (j := 0) (R := rou s N (2 ^ v) 0 N 0) (Nat.le_refl _)).trans (by rw [Nat.zero_add])
  rw [e1]
  have hR : rou s N (2 ^ v) 0 N 0 < 64 := rou_b hN (by decide)
  have t1 : ∀ d, (rou s N (2 ^ v) 0 N 0).testBit d = true ↔ d < N ∧ pow s v d = true := fun d => by
    rw [rou_t]
    constructor
    · rintro (z | ⟨e, h1, h2, h3, h4, h5, h6⟩)
      · rw [Nat.zero_testBit] at z
        cases z
      · rw [Nat.testBit_two_pow, decide_eq_true_eq] at h3
        subst h3
        exact ⟨h4, h6⟩
    · rintro ⟨h1, h2⟩
      refine Or.inr ⟨v, Nat.zero_le _, by omega, by rw [Nat.testBit_two_pow]; exact decide_eq_true rfl, h1, fun e => ?_, h2⟩
      subst e
      rw [pow_d I (by omega)] at h2
      cases h2
  generalize rou s N (2 ^ v) 0 N 0 = R at *
  have fx : gst2 s N 6 R = gst2 s N 7 R := by
    rcases gst2_f (s := s) hN hR 6 with e | e
    · exact e
    · by_cases z : R = 0
      · subst z
        rw [gst2_z, gst2_z]
      · have := pc6_0 hR z
        have := pc6_6 (gst2_b (s := s) hN hR 6)
        omega
  constructor
  · have snd : ∀ n d, (gst2 s N n R).testBit d = true → d < N ∧ owr s N v d := fun n => by
      induction n with
      | zero => exact fun d z => ⟨((t1 d).mp z).1, 0, (t1 d).mp z⟩
      | succ n ih =>
        intro d z
        rcases rou_t.mp z with z | ⟨e, h1, h2, h3, h4, h5, h6⟩
        · exact ih d z
        · exact ⟨h4, owr_t (ih e h3).2 ⟨0, h4, h6⟩⟩
    exact fun z => (snd 6 d z).2
  · have mono : ∀ n d, R.testBit d = true → (gst2 s N n R).testBit d = true := fun n => by
      induction n with
      | zero => exact fun d z => z
      | succ n ih => exact fun d z => rou_t.mpr (Or.inl (ih d z))
    rintro ⟨n, z⟩
    have key : ∀ {n d : Nat}, owp s N n v d → (gst2 s N 6 R).testBit d = true := fun {n} => by
      induction n with
      | zero => exact fun {d} z => mono 6 d ((t1 d).mpr z)
      | succ n ih =>
        intro d z
        obtain ⟨e, z1, z2, z3⟩ := z
        rw [fx]
        have eN := owp_N z1
        refine rou_t.mpr (Or.inr ⟨e, Nat.zero_le _, by omega, ih z1, z2, fun y => ?_, z3⟩)
        subst y
        rw [pow_d I (by omega)] at z3
        cases z3
    exact key z
/-- houses in rings, counted -/
def rcn (P : Nat → Bool) : Nat → Nat → Int32 → Int32
  | _, 0, v => v
  | h, n + 1, v => rcn P (h + 1) n (v + (if P h = true then 1 else 0))
theorem rcn_c {P Q : Nat → Bool} : ∀ {n h : Nat} {v : Int32}, (∀ x, h ≤ x → x < h + n → P x = Q x) → rcn P h n v = rcn Q h n v
  | 0, _, _, _ => rfl
  | n + 1, h, v, e => by
    show rcn P (h + 1) n (v + (if P h = true then 1 else 0)) = rcn Q (h + 1) n (v + (if Q h = true then 1 else 0))
    rw [e h (Nat.le_refl _) (by omega)]
    exact rcn_c (fun x a b => e x (by omega) (by omega))
end POWR
section PRGR
variable {s : Nat → Int32} {m : xS} {F N : Nat}
theorem r263_40 (hF : 100 ≤ F) (es : m.1 80 = s) (I : vI s) (e0 : s 0 = Int32.ofNat N) (hN : N ≤ 6) {v1 v3 : Int32} {W e : Nat} (hW : W < 64) (he : e < 6) (hw : W.testBit e = true) {g4 : Int32 → Int32 → Int32 → xS → Option (Int32 × xS)} {g26 : Int32 → Int32 → Int32 → Int32 → Int32 → xS → Option (Int32 × xS)} : ∀ (f : Nat) {d r : Nat}, r < 64 → d ≤ N → N - d < f → D263_40 F g4 g26 f v1 (Int32.ofNat r) v3 (Int32.ofNat W) (Int32.ofNat e) (Int32.ofNat d) m = g26 v1 (Int32.ofNat (rin s e d (N - d) r)) v3 (Int32.ofNat W) (Int32.ofNat (e + 1)) m := by
  have eN := nJ (n := N) (by omega)
  intro f
  induction f with
  | zero => intro d r _ _ l; omega
  | succ f ih =>
    intro d r hr hd l
    have ed := nJ (n := d) (by omega)
    unfold D263_40
    rw [es, e0]
    by_cases q : N ≤ d
    · rw [show N - d = 0 by omega]
      refine oT (zc.trans (decide_eq_true (by omega))) ?_
      rw [(o1 (n := e) (by omega)).2.2]
      rfl
    · rw [show N - d = (N - (d + 1)) + 1 by omega]
      have d6 : d < 6 := by omega
      have nx : ∀ {r' : Nat}, r' < 64 → (if ¬ e = d ∧ pow s e d = true then r ||| 2 ^ d else r) = r' → D263_86 F g4 g26 (D263_40 F g4 g26 f) v1 (Int32.ofNat r') v3 (Int32.ofNat W) (Int32.ofNat e) (Int32.ofNat d) m = g26 v1 (Int32.ofNat (rin s e d ((N - (d + 1)) + 1) r)) v3 (Int32.ofNat W) (Int32.ofNat (e + 1)) m := fun {r'} h1 h2 => by
        unfold D263_86
        rw [(o1 (n := d) (by omega)).2.2]
        refine (ih h1 (by omega) (by omega)).trans ?_
        show _ = g26 v1 (Int32.ofNat (rin s e (d + 1) (N - (d + 1)) (if ¬ e = d ∧ pow s e d = true then r ||| 2 ^ d else r))) v3 (Int32.ofNat W) (Int32.ofNat (e + 1)) m
        rw [h2]
      have r1 := r159 (F := F) (m := m) (v0 := Int32.ofNat W) (v1 := Int32.ofNat e) rfl rfl hW he
      rw [hw] at r1
      refine oF (zc.trans (decide_eq_false (by omega))) (ob r1 (oF (zeF rfl) ?_))
      by_cases c : e = d
      · exact oT (by rw [zce, c]; exact beq_self_eq_true _) (nx hr (if_neg (fun z => z.1 c)))
      · refine oF (by rw [zce]; exact beq_eq_false_iff_ne.mpr (fun z => c ((xeq (by omega) (by omega)).mp z))) ?_
        have r2 := r211 (F := F) (m := m) (a := e) (d := d) (v1 := Int32.ofNat e) (v2 := Int32.ofNat d) rfl rfl he d6
        rw [es] at r2
        refine ob r2 ?_
        have pw := pow0 I he d6
        by_cases p : pow s e d = true
        · obtain ⟨b1, b2⟩ := bor hr d6
          rw [p] at pw
          refine oF pw ?_
          rw [b1]
          exact nx b2 (if_pos ⟨c, p⟩)
        · rw [show pow s e d = false by simpa using p] at pw
          exact oT pw (nx hr (if_neg (fun z => p z.2)))
theorem r263_40n (es : m.1 80 = s) (e0 : s 0 = Int32.ofNat N) (hN : N ≤ 6) {v1 v3 : Int32} {W e r : Nat} (hW : W < 64) (he : e < 6) (hw : W.testBit e = false) {g4 : Int32 → Int32 → Int32 → xS → Option (Int32 × xS)} {g26 : Int32 → Int32 → Int32 → Int32 → Int32 → xS → Option (Int32 × xS)} : ∀ (f : Nat) {d : Nat}, d ≤ N → N - d < f → D263_40 F g4 g26 f v1 (Int32.ofNat r) v3 (Int32.ofNat W) (Int32.ofNat e) (Int32.ofNat d) m = g26 v1 (Int32.ofNat r) v3 (Int32.ofNat W) (Int32.ofNat (e + 1)) m := by
  have eN := nJ (n := N) (by omega)
  intro f
  induction f with
  | zero => intro d _ l; omega
  | succ f ih =>
    intro d hd l
    have ed := nJ (n := d) (by omega)
    unfold D263_40
    rw [es, e0]
    by_cases q : N ≤ d
    · refine oT (zc.trans (decide_eq_true (by omega))) ?_
      rw [(o1 (n := e) (by omega)).2.2]
    · have r1 := r159 (F := F) (m := m) (v0 := Int32.ofNat W) (v1 := Int32.ofNat e) rfl rfl hW he
      rw [hw] at r1
      refine oF (zc.trans (decide_eq_false (by omega))) (ob r1 (oT (zeT rfl) ?_))
      unfold D263_86
      rw [(o1 (n := d) (by omega)).2.2]
      exact ih (by omega) (by omega)
theorem r263_26 (hF : 100 ≤ F) (es : m.1 80 = s) (I : vI s) (e0 : s 0 = Int32.ofNat N) (hN : N ≤ 6) {v1 : Int32} {k W : Nat} (hW : W < 64) (hk : k < 10) {g4 : Int32 → Int32 → Int32 → xS → Option (Int32 × xS)} : ∀ (f : Nat) {e r : Nat}, r < 64 → e ≤ N → N - e < f → D263_26 F g4 f v1 (Int32.ofNat r) (Int32.ofNat k) (Int32.ofNat W) (Int32.ofNat e) m = g4 v1 (Int32.ofNat (rou s N W e (N - e) r)) (Int32.ofNat (k + 1)) m := by
  have eN := nJ (n := N) (by omega)
  intro f
  induction f with
  | zero => intro e r _ _ l; omega
  | succ f ih =>
    intro e r hr he l
    have ee := nJ (n := e) (by omega)
    unfold D263_26
    rw [es, e0]
    by_cases q : N ≤ e
    · rw [show N - e = 0 by omega]
      refine oT (zc.trans (decide_eq_true (by omega))) ?_
      rw [(o1 (n := k) (by omega)).2.2]
      rfl
    · rw [show N - e = (N - (e + 1)) + 1 by omega]
      refine oF (zc.trans (decide_eq_false (by omega))) ?_
      show _ = g4 v1 (Int32.ofNat (rou s N W (e + 1) (N - (e + 1)) (if W.testBit e = true then rin s e 0 N r else r))) (Int32.ofNat (k + 1)) m
      by_cases c : W.testBit e = true
      · rw [if_pos c]
        have z := r263_40 (F := F) hF es I e0 hN (v1 := v1) (v3 := Int32.ofNat k) hW (e := e) (by omega) c (g4 := g4) (g26 := D263_26 F g4 f) F (d := 0) (r := r) hr (Nat.zero_le _) (by omega)
        rw [Nat.sub_zero] at z
        exact z.trans (ih (rin_b (by omega) hr) (by omega) (by omega))
      · rw [if_neg c]
        exact (r263_40n (F := F) es e0 hN hW (by omega) (by simpa using c) F (d := 0) (Nat.zero_le _) (by omega)).trans (ih hr (by omega) (by omega))
theorem r263_4 (hF : 100 ≤ F) (es : m.1 80 = s) (I : vI s) (e0 : s 0 = Int32.ofNat N) (hN : N ≤ 6) {v : Nat} (hv : v < 6) : ∀ (f : Nat) {k r : Nat}, r < 64 → k ≤ 7 → 7 - k < f → D263_4 F f (Int32.ofNat v) (Int32.ofNat r) (Int32.ofNat k) m = some (Int32.ofNat (rrd s N v k (7 - k) r), m) := by
  have l6 : (6 : Int32).toInt = 6 := rfl
  intro f
  induction f with
  | zero => intro k r _ _ l; omega
  | succ f ih =>
    intro k r hr hk l
    have ek := nJ (n := k) (by omega)
    unfold D263_4
    by_cases q : 7 ≤ k
    · rw [show 7 - k = 0 by omega]
      exact oT (zcgt.trans (decide_eq_true (by omega))) rfl
    · rw [show 7 - k = (7 - (k + 1)) + 1 by omega]
      refine oF (zcgt.trans (decide_eq_false (by omega))) ?_
      show _ = some (Int32.ofNat (rrd s N v (k + 1) (7 - (k + 1)) (rou s N (if k = 0 then 2 ^ v else r) 0 N r)), m)
      obtain ⟨p1, p2⟩ := b2p hv
      by_cases c : k = 0
      · rw [if_pos c]
        refine oF ((zcni (y := 0) rfl).trans (by rw [decide_eq_true (by omega)]; rfl)) ?_
        unfold D263_21
        rw [p1]
        have z := r263_26 (F := F) hF es I e0 hN (v1 := Int32.ofNat v) (k := k) (W := 2 ^ v) p2 (by omega) (g4 := D263_4 F f) F (e := 0) (r := r) hr (Nat.zero_le _) (by omega)
        rw [Nat.sub_zero] at z
        exact z.trans (ih (rou_b hN hr) (by omega) (by omega))
      · rw [if_neg c]
        refine oT ((zcni (y := 0) rfl).trans (by rw [decide_eq_false (by omega)]; rfl)) ?_
        unfold D263_21
        have z := r263_26 (F := F) hF es I e0 hN (v1 := Int32.ofNat v) (k := k) (W := r) hr (by omega) (g4 := D263_4 F f) F (e := 0) (r := r) hr (Nat.zero_le _) (by omega)
        rw [Nat.sub_zero] at z
        exact z.trans (ih (rou_b hN hr) (by omega) (by omega))
theorem rrd_b (hN : N ≤ 6) {v : Nat} : ∀ {n k r : Nat}, r < 64 → rrd s N v k n r < 64
  | 0, _, _, hr => hr
  | n + 1, _, _, hr => rrd_b hN (n := n) (rou_b hN hr)
theorem r264_29 (hF : 100 ≤ F) (es : m.1 80 = s) (I : vI s) (e0 : s 0 = Int32.ofNat N) (hN : N ≤ 6) {v1 : Int32} : ∀ (f : Nat) {h : Nat} {v : Int32}, h ≤ N → N - h < f → D264_29 F f v1 v (Int32.ofNat h) m = some (rcn (fun h => (rrd s N h 0 7 0).testBit h) h (N - h) v, m) := by
  have eN := nJ (n := N) (by omega)
  intro f
  induction f with
  | zero => intro h v _ l; omega
  | succ f ih =>
    intro h v hh l
    have eh := nJ (n := h) (by omega)
    unfold D264_29
    rw [es, e0]
    by_cases q : N ≤ h
    · rw [show N - h = 0 by omega]
      exact oT (zc.trans (decide_eq_true (by omega))) rfl
    · rw [show N - h = (N - (h + 1)) + 1 by omega]
      have z := r263_4 (F := F) hF es I e0 hN (v := h) (by omega) F (k := 0) (r := 0) (by decide) (by decide) (by omega)
      have z : D263 F (Int32.ofNat h) m = some (Int32.ofNat (rrd s N h 0 7 0), m) := z
      have r1 := r159 (F := F) (m := m) (v0 := Int32.ofNat (rrd s N h 0 7 0)) (v1 := Int32.ofNat h) rfl rfl (rrd_b hN (by decide)) (by omega)
      refine oF (zc.trans (decide_eq_false (by omega))) (ob z (ob r1 ?_))
      show _ = some (rcn (fun h => (rrd s N h 0 7 0).testBit h) (h + 1) (N - (h + 1)) (v + (if (rrd s N h 0 7 0).testBit h = true then 1 else 0)), m)
      cases c : (rrd s N h 0 7 0).testBit h with
      | true =>
        rw [if_pos (show true = true from rfl)]
        refine oF (zeF rfl) ?_
        unfold D264_57
        rw [(o1 (n := h) (by omega)).2.2]
        exact ih (by omega) (by omega)
      | false =>
        rw [if_neg (show ¬ (false = true) by decide)]
        refine oT (zeT rfl) ?_
        unfold D264_57
        rw [(o1 (n := h) (by omega)).2.2]
        exact ih (by omega) (by omega)
/-- the class: who owes whom -/
def wro (s : Nat → Int32) (a : Nat) : Nat → Nat → Nat → Nat
  | _, 0, r => r
  | d, n + 1, r => wro s a (d + 1) n (if pow s a d = true then r ||| 2 ^ d else r)
theorem wro_t {a : Nat} : ∀ {n h r d : Nat}, (wro s a h n r).testBit d = true ↔ r.testBit d = true ∨ (h ≤ d ∧ d < h + n ∧ pow s a d = true)
  | 0, h, r, d => ⟨fun z => Or.inl z, fun z => z.elim id (fun ⟨h1, h2, _⟩ => by omega)⟩
  | n + 1, h, r, d => by
    show (wro s a (h + 1) n (if pow s a h = true then r ||| 2 ^ h else r)).testBit d = true ↔ _
    rw [wro_t]
    by_cases c : pow s a h = true
    · rw [if_pos c, Nat.testBit_or, Nat.testBit_two_pow, Bool.or_eq_true, decide_eq_true_eq]
      constructor
      · rintro ((z | z) | ⟨h1, h2, h3⟩)
        · exact Or.inl z
        · subst z
          exact Or.inr ⟨Nat.le_refl _, by omega, c⟩
        · exact Or.inr ⟨by omega, by omega, h3⟩
      · rintro (z | ⟨h1, h2, h3⟩)
        · exact Or.inl (Or.inl z)
        · by_cases y : h = d
          · exact Or.inl (Or.inr y)
          · exact Or.inr ⟨by omega, by omega, h3⟩
    · rw [if_neg c]
      constructor
      · rintro (z | ⟨h1, h2, h3⟩)
        · exact Or.inl z
        · exact Or.inr ⟨by omega, by omega, h3⟩
      · rintro (z | ⟨h1, h2, h3⟩)
        · exact Or.inl z
        · by_cases y : h = d
          · subst y
            exact absurd h3 c
          · exact Or.inr ⟨by omega, by omega, h3⟩
theorem wro_b {a : Nat} : ∀ {n h r : Nat}, h + n ≤ 6 → r < 64 → wro s a h n r < 64
  | 0, _, _, _, hr => hr
  | n + 1, h, r, hn, hr => by
    refine wro_b (n := n) (by omega) ?_
    split
    · exact Nat.or_lt_two_pow (n := 6) hr (Nat.pow_lt_pow_right (by decide) (by omega))
    · exact hr
def k69 (m m' : xS) : Prop := (∀ i, i ≠ 69 → m'.1 i = m.1 i) ∧ m'.2 = m.2
theorem k69_t {a b c : xS} (h1 : k69 a b) (h2 : k69 b c) : k69 a c := ⟨fun i h => (h2.1 i h).trans (h1.1 i h), h2.2.trans h1.2⟩
theorem k69_x {a : xS} {j : Nat} {v : Int32} : k69 a (xu a 69 j v) := ⟨fun i h => xu_row h, rfl⟩
theorem c66_22 (hF : 100 ≤ F) (I : vI s) (hN : N ≤ 6) {a : Nat} (ha : a < 6) {g7 : Int32 → Int32 → xS → Option (Int32 × xS)} : ∀ (f : Nat) {d r : Nat} {m : xS}, R32 s (m.1 10) → m.1 69 a = Int32.ofNat r → r < 64 → d ≤ N → N - d < f → ∃ m', D66_67_9_22 F g7 f (Int32.ofNat N) (Int32.ofNat a) (Int32.ofNat d) m = g7 (Int32.ofNat N) (Int32.ofNat (a + 1)) m' ∧ m'.1 69 a = Int32.ofNat (wro s a d (N - d) r) ∧ (∀ j, j ≠ a → m'.1 69 j = m.1 69 j) ∧ k69 m m' := by
  have eN := nJ (n := N) (by omega)
  have ea := nJ (n := a) (by omega)
  intro f
  induction f with
  | zero => intro d r m _ _ _ _ l; omega
  | succ f ih =>
    intro d r m R hm hr hd l
    have ed := nJ (n := d) (by omega)
    unfold D66_67_9_22
    by_cases q : N ≤ d
    · rw [show N - d = 0 by omega]
      refine ⟨m, oT (zc.trans (decide_eq_true (by omega))) ?_, hm, fun _ _ => rfl, fun _ _ => rfl, rfl⟩
      rw [(o1 (n := a) (by omega)).2.2]
    · rw [show N - d = (N - (d + 1)) + 1 by omega]
      have d6 : d < 6 := by omega
      have r94 := c94_9 (F := F) R (a := a) (d := d) rfl rfl ha d6
      have pw := pow0 I ha d6
      have g : zcmp .ge (Int32.ofNat d) (Int32.ofNat N) = false := zc.trans (decide_eq_false (by omega))
      show ∃ m' : xS, _ = _ ∧ m'.1 69 a = Int32.ofNat (wro s a (d + 1) (N - (d + 1)) (if pow s a d = true then r ||| 2 ^ d else r)) ∧ _
      by_cases c : pow s a d = true
      · obtain ⟨b1, b2⟩ := bor hr d6
        rw [c] at pw
        obtain ⟨m', d1, d2, d3, d4⟩ := ih (d := d + 1) (r := r ||| 2 ^ d) (m := xu m 69 a (Int32.ofNat (r ||| 2 ^ d))) (by rw [xu_row (by decide)]; exact R) (xu_s _ _ _ _) b2 (by omega) (by omega)
        rw [if_pos c]
        refine ⟨m', oF g (ob r94 (oF pw ?_)), d2, fun j hj => (d3 j hj).trans (xu_o (fun z => hj z.2)), k69_t k69_x d4⟩
        rw [if_pos (gxb ea ha), if_pos (gxb ea ha), gxn ea, hm, b1]
        unfold D66_67_9_51
        rw [(o1 (n := d) (by omega)).2.2]
        exact d1
      · rw [show pow s a d = false by simpa using c] at pw
        obtain ⟨m', d1, d2⟩ := ih (d := d + 1) (r := r) (m := m) R hm hr (by omega) (by omega)
        rw [if_neg c]
        refine ⟨m', oF g (ob r94 (oT pw ?_)), d2⟩
        unfold D66_67_9_51
        rw [(o1 (n := d) (by omega)).2.2]
        exact d1
theorem c66_73 (hN : N ≤ 6) {k : Nat} (hk : k < N) {C : Nat → Nat} (hC : ∀ a, a < 6 → C a < 64) {g65 : Int32 → Int32 → xS → Option (Int32 × xS)} : ∀ (f : Nat) {a : Nat} {m : xS}, (∀ j, j < N → m.1 69 j = Int32.ofNat (if j < a then wst k C j else C j)) → a ≤ N → N - a < f → ∃ m', D66_67_9_73 F g65 f (Int32.ofNat N) (Int32.ofNat k) (Int32.ofNat a) m = g65 (Int32.ofNat N) (Int32.ofNat (k + 1)) m' ∧ (∀ j, j < N → m'.1 69 j = Int32.ofNat (wst k C j)) ∧ k69 m m' := by
  have eN := nJ (n := N) (by omega)
  have ek := nJ (n := k) (by omega)
  have wk : wst k C k = C k := by
    unfold wst
    split
    · exact Nat.or_self _
    · rfl
  intro f
  induction f with
  | zero => intro a m _ _ l; omega
  | succ f ih =>
    intro a m hm ha l
    have ea := nJ (n := a) (by omega)
    unfold D66_67_9_73
    by_cases q : N ≤ a
    · refine ⟨m, oT (zc.trans (decide_eq_true (by omega))) ?_, fun j hj => by rw [hm j hj, if_pos (by omega)], fun _ _ => rfl, rfl⟩
      rw [(o1 (n := k) (by omega)).2.2]
    · have g : zcmp .ge (Int32.ofNat a) (Int32.ofNat N) = false := zc.trans (decide_eq_false (by omega))
      have a6 : a < 6 := by omega
      have k6 : k < 6 := by omega
      have va : m.1 69 a = Int32.ofNat (C a) := by rw [hm a (by omega), if_neg (by omega)]
      have vk : m.1 69 k = Int32.ofNat (C k) := by
        rw [hm k hk]
        split
        · rw [wk]
        · rfl
      have nx : ∀ {m2 : xS}, (∀ j, j < N → m2.1 69 j = Int32.ofNat (if j < a + 1 then wst k C j else C j)) → k69 m m2 → ∃ m', D66_67_9_109 F g65 (D66_67_9_73 F g65 f) (Int32.ofNat N) (Int32.ofNat k) (Int32.ofNat a) m2 = g65 (Int32.ofNat N) (Int32.ofNat (k + 1)) m' ∧ (∀ j, j < N → m'.1 69 j = Int32.ofNat (wst k C j)) ∧ k69 m m' := fun {m2} h1 h2 => by
        obtain ⟨m', d1, d2, d3⟩ := ih (a := a + 1) (m := m2) h1 (by omega) (by omega)
        refine ⟨m', ?_, d2, k69_t h2 d3⟩
        unfold D66_67_9_109
        rw [(o1 (n := a) (by omega)).2.2]
        exact d1
      rw [if_neg (by rw [g]; decide), if_pos (gxb ea a6), gxn ea, va]
      have t := tbe (hC a a6) k6
      by_cases c : (C a).testBit k = true
      · rw [c] at t
        have e1 : wst k C a = C a ||| C k := if_pos c
        rw [if_neg (by rw [t]; decide), if_pos (gxb ea a6), if_pos (gxb ek k6), if_pos (gxb ea a6), gxn ek, vk, or64 (hC a a6) (hC k k6)]
        refine nx (fun j hj => ?_) k69_x
        by_cases y : j = a
        · subst y
          rw [xu_s, if_pos (by omega), e1]
        · rw [xu_o (fun z => y z.2), hm j hj]
          by_cases w : j < a
          · rw [if_pos w, if_pos (by omega)]
          · rw [if_neg w, if_neg (by omega)]
      · rw [show (C a).testBit k = false by simpa using c] at t
        have e1 : wst k C a = C a := if_neg c
        rw [if_pos (by rw [t]; rfl)]
        refine nx (fun j hj => ?_) ⟨fun _ _ => rfl, rfl⟩
        rw [hm j hj]
        by_cases y : j = a
        · subst y
          rw [if_neg (by omega), if_pos (by omega), e1]
        · by_cases w : j < a
          · rw [if_pos w, if_pos (by omega)]
          · rw [if_neg w, if_neg (by omega)]
theorem wst_b {k : Nat} {C : Nat → Nat} (hk : k < 6) (hC : ∀ a, a < 6 → C a < 64) : ∀ a, a < 6 → wst k C a < 64 := fun a ha => by
  unfold wst
  split
  · exact Nat.or_lt_two_pow (n := 6) (hC a ha) (hC k hk)
  · exact hC a ha
theorem wal_b : ∀ {n k : Nat} {C : Nat → Nat}, k + n ≤ 6 → (∀ a, a < 6 → C a < 64) → ∀ a, a < 6 → wal k n C a < 64
  | 0, _, _, _, h => h
  | n + 1, k, C, e, h => wal_b (n := n) (by omega) (wst_b (by omega) h)
theorem c66_126 (hN : N ≤ 6) {C : Nat → Nat} (hC : ∀ a, a < 6 → C a < 64) {m : xS} (hm : ∀ j, j < N → m.1 69 j = Int32.ofNat (C j)) : ∀ (f : Nat) {h : Nat} {v : Int32}, h ≤ N → N - h < f → D66_67_9_126 F f (Int32.ofNat N) v (Int32.ofNat h) m = some (rcn (fun h => (C h).testBit h) h (N - h) v, m) := by
  have eN := nJ (n := N) (by omega)
  intro f
  induction f with
  | zero => intro h v _ l; omega
  | succ f ih =>
    intro h v hh l
    have eh := nJ (n := h) (by omega)
    unfold D66_67_9_126
    by_cases q : N ≤ h
    · rw [show N - h = 0 by omega]
      exact oT (zc.trans (decide_eq_true (by omega))) rfl
    · rw [show N - h = (N - (h + 1)) + 1 by omega]
      have h6 : h < 6 := by omega
      refine oF (zc.trans (decide_eq_false (by omega))) (oT (gxb eh h6) ?_)
      have b1 : (Int32.ofNat (C h) >>> (Int32.ofNat h &&& 31)) &&& 1 = if (C h).testBit h = true then 1 else 0 := by
        have key : (List.range 64).all (fun b => (List.range 6).all (fun h => ((Int32.ofNat b >>> (Int32.ofNat h &&& 31)) &&& 1) == (if b.testBit h = true then 1 else 0))) = true := by decide +kernel
        exact eq_of_beq (List.all_eq_true.mp (List.all_eq_true.mp key (C h) (List.mem_range.mpr (hC h h6))) h (List.mem_range.mpr h6))
      rw [gxn eh, hm h (by omega), b1, (o1 (n := h) (by omega)).2.2]
      exact ih (by omega) (by omega)
theorem c66_65 (hF : 100 ≤ F) (hN : N ≤ 6) : ∀ (f : Nat) {k : Nat} {C : Nat → Nat} {m : xS}, (∀ a, a < 6 → C a < 64) → (∀ j, j < N → m.1 69 j = Int32.ofNat (C j)) → k ≤ N → N - k < f → ∃ m', D66_67_9_65 F f (Int32.ofNat N) (Int32.ofNat k) m = some (rcn (fun h => (wal k (N - k) C h).testBit h) 0 N 0, m') ∧ k69 m m' := by
  have eN := nJ (n := N) (by omega)
  intro f
  induction f with
  | zero => intro k C m _ _ _ l; omega
  | succ f ih =>
    intro k C m hC hm hk l
    have ek := nJ (n := k) (by omega)
    unfold D66_67_9_65
    by_cases q : N ≤ k
    · rw [show N - k = 0 by omega]
      have z := c66_126 (F := F) hN hC hm F (h := 0) (v := 0) (Nat.zero_le _) (by omega)
      rw [Nat.sub_zero] at z
      exact ⟨m, oT (zc.trans (decide_eq_true (by omega))) z, fun _ _ => rfl, rfl⟩
    · rw [show N - k = (N - (k + 1)) + 1 by omega]
      obtain ⟨m1, d1, d2, d3⟩ := c66_73 (F := F) hN (k := k) (by omega) hC (g65 := D66_67_9_65 F f) F (a := 0) (m := m) (fun j hj => by rw [if_neg (Nat.not_lt_zero j)]; exact hm j hj) (Nat.zero_le _) (by omega)
      obtain ⟨m', e1, e2⟩ := ih (k := k + 1) (C := wst k C) (m := m1) (wst_b (by omega) hC) d2 (by omega) (by omega)
      exact ⟨m', oF (zc.trans (decide_eq_false (by omega))) (d1.trans e1), k69_t d3 e2⟩
theorem c66_7 (hF : 100 ≤ F) (I : vI s) (hN : N ≤ 6) : ∀ (f : Nat) {a : Nat} {m : xS}, R32 s (m.1 10) → (∀ j, j < a → m.1 69 j = Int32.ofNat (wro s j 0 N 0)) → a ≤ N → N - a < f → ∃ m', D66_67_9_7 F f (Int32.ofNat N) (Int32.ofNat a) m = some (rcn (fun h => (wal 0 N (fun a => wro s a 0 N 0) h).testBit h) 0 N 0, m') ∧ k69 m m' := by
  have eN := nJ (n := N) (by omega)
  intro f
  induction f with
  | zero => intro a m _ _ _ l; omega
  | succ f ih =>
    intro a m R hm ha l
    have ea := nJ (n := a) (by omega)
    unfold D66_67_9_7
    by_cases q : N ≤ a
    · have e : a = N := by omega
      subst e
      obtain ⟨m', d1, d2⟩ := c66_65 (F := F) hF hN F (k := 0) (C := fun a' => wro s a' 0 a 0) (m := m) (fun a' _ => wro_b (by omega) (by decide)) hm (Nat.zero_le _) (by omega)
      rw [Nat.sub_zero] at d1
      exact ⟨m', oT (zc.trans (decide_eq_true (by omega))) d1, d2⟩
    · have a6 : a < 6 := by omega
      obtain ⟨m1, d1, d2, d3, d4⟩ := c66_22 (F := F) hF I hN a6 (g7 := D66_67_9_7 F f) F (d := 0) (r := 0) (m := xu m 69 a 0) (by rw [xu_row (by decide)]; exact R) (xu_s _ _ _ _) (by decide) (Nat.zero_le _) (by omega)
      rw [Nat.sub_zero] at d2
      have kk : k69 m m1 := k69_t k69_x d4
      obtain ⟨m', e1, e2⟩ := ih (a := a + 1) (m := m1) (by rw [kk.1 10 (by decide)]; exact R) (fun j hj => by
        by_cases y : j = a
        · subst y
          exact d2
        · rw [d3 j y, xu_o (fun z => y z.2)]
          exact hm j (by omega)) (by omega) (by omega)
      refine ⟨m', oF (zc.trans (decide_eq_false (by omega))) (oT (gxb ea a6) ?_), k69_t kk e2⟩
      rw [gxn ea]
      exact d1.trans e1
/-- both count alike -/
theorem rcn_eq (I : vI s) (hN : N ≤ 6) : rcn (fun h => (wal 0 N (fun a => wro s a 0 N 0) h).testBit h) 0 N 0 = rcn (fun h => (rrd s N h 0 7 0).testBit h) 0 N 0 := by
  have W : wIv s N N (wal 0 N (fun a => wro s a 0 N 0)) := wal_I (by omega) ⟨fun a ha d z => by
    rcases wro_t.mp z with z | ⟨-, z1, z2⟩
    · rw [Nat.zero_testBit] at z
      cases z
    · exact ⟨by omega, 0, by omega, z2⟩, fun a d ha hd z => wro_t.mpr (Or.inr ⟨Nat.zero_le _, by omega, z⟩), fun j hj => absurd hj (Nat.not_lt_zero j)⟩
  refine rcn_c (fun x _ hx => ?_)
  have x1 := wIv_o W (a := x) (d := x) (by omega)
  have x2 := rrd_o (s := s) I hN (v := x) (d := x) (by omega)
  exact Bool.eq_iff_iff.mpr (x1.trans x2.symm)
theorem vRings (hF : 120000 ≤ F) {y1 : Int32} (es : m.1 80 = s) (R : R32 s (m.1 10)) (I : vI s) : ∃ v m1, D146_0 F y1 m = some (v, m1) ∧ m1.1 80 = m.1 80 ∧ ∀ m2 : xS, m2.1 80 = s → ∃ m3, D264 F y1 m2 = some (v, m3) := by
  have l0 : (0 : Int32).toInt = 0 := rfl
  have l1 : (1 : Int32).toInt = 1 := rfl
  have l2 : (2 : Int32).toInt = 2 := rfl
  have l7 : (7 : Int32).toInt = 7 := rfl
  have n6 := I_n6 I
  have n0 := I_n0 I
  obtain ⟨N, eN⟩ : ∃ N : Nat, (s 0).toInt = (N : Int) := ⟨(s 0).toInt.toNat, by omega⟩
  have e0 := i32n eN
  unfold D146_0 D264
  by_cases a : 0 < (s 0).toInt
  rotate_left
  · exact ⟨-1, m, ob (c76_9 R) (oT (zeT (decide_eq_false a)) rfl), rfl, fun m2 e2 => ⟨m2, ob r204 (oT (zeT (by rw [e2]; exact decide_eq_false a)) rfl)⟩⟩
  by_cases b : 0 ≤ y1.toInt ∧ y1.toInt ≤ 7
  rotate_left
  · refine ⟨-1, m, ob (c76_9 R) (oF (zeF (decide_eq_true a)) ?_), rfl, fun m2 e2 => ⟨m2, ob r204 (oF (zeF (by rw [e2]; exact decide_eq_true a)) (ob (r158 (x := 0) (y := 7) rfl rfl) (oF (znF ?_) rfl)))⟩⟩
    · by_cases q : y1.toInt < 0
      · exact oT (zcl.trans (decide_eq_true (by omega))) rfl
      · exact oF (zcl.trans (decide_eq_false (by omega))) (oF (zcle.trans (decide_eq_false (by omega))) rfl)
    · rw [← Bool.not_eq_true, Bool.and_eq_true, decide_eq_true_eq, decide_eq_true_eq]
      exact b
  have gc : ∀ {v : Int32} {m' : xS}, (if zcmp .ne y1 0 = true then
            (D63_67_9 F m).bind fun q46 =>
              if zcmp .ne y1 1 = true then
                if zcmp .ge (y1 - 2) (q46.2.1 67 1) = true then
                  some ((-2), q46.2)
                else
                  if xib (y1 - 2) 6 = true then
                    some ((q46.2.1 68 ((y1 - 2) : Int32).toNatClampNeg), q46.2)
                  else none
              else
                some ((q46.2.1 67 1), q46.2)
          else
            (D66_67_9 F m).bind fun q34 =>
              some (q34.1, q34.2)) = some (v, m') → ((D76_9 F m).bind fun q4 =>
    if zcmp .eq q4.1 0 = true then
      D146_0_20 F y1 q4.2
    else
      if zcmp .lt y1 0 = true then
        D146_0_20 F y1 q4.2
      else
        if zcmp .le y1 7 = true then
          if zcmp .ne y1 0 = true then
            (D63_67_9 F q4.2).bind fun q46 =>
              if zcmp .ne y1 1 = true then
                if zcmp .ge (y1 - 2) (q46.2.1 67 1) = true then
                  some ((-2), q46.2)
                else
                  if xib (y1 - 2) 6 = true then
                    some ((q46.2.1 68 ((y1 - 2) : Int32).toNatClampNeg), q46.2)
                  else none
              else
                some ((q46.2.1 67 1), q46.2)
          else
            (D66_67_9 F q4.2).bind fun q34 =>
              some (q34.1, q34.2)
        else
          D146_0_20 F y1 q4.2) = some (v, m') := fun {v m'} k => ob (c76_9 R) (oF (zeF (decide_eq_true a)) (oF (zcl.trans (decide_eq_false (by omega))) (oT (zcle.trans (decide_eq_true (by omega))) k)))
  have gr : ∀ {v : Int32} {m2 m3 : xS}, m2.1 80 = s → (if zcmp .ne y1 0 = true then
            (D241 F m2).bind fun q68 =>
              if zcmp .ne y1 1 = true then
                if zcmp .ge (y1 - 2) q68.1 = true then
                  some ((-2), q68.2)
                else
                  (D236 F (q68.2.1 70 26) q68.1 (y1 - 2) q68.2).bind fun q97 =>
                    some (q97.1, q97.2)
              else
                some (q68.1, q68.2)
          else
            D264_29 F F y1 0 0 m2) = some (v, m3) → ((D204 F m2).bind fun q1 =>
    if zcmp .eq q1.1 0 = true then
      D264_19 F y1 q1.2
    else
      (D158 F (y1 : Int32).toInt64 0 7 q1.2).bind fun q13 =>
        if zcmp .ne q13.1 0 = true then
          if zcmp .ne y1 0 = true then
            (D241 F q13.2).bind fun q68 =>
              if zcmp .ne y1 1 = true then
                if zcmp .ge (y1 - 2) q68.1 = true then
                  some ((-2), q68.2)
                else
                  (D236 F (q68.2.1 70 26) q68.1 (y1 - 2) q68.2).bind fun q97 =>
                    some (q97.1, q97.2)
              else
                some (q68.1, q68.2)
          else
            D264_29 F F y1 0 0 q13.2
        else
          D264_19 F y1 q13.2) = some (v, m3) := fun {v m2 m3} e2 k => ob r204 (oF (zeF (by rw [e2]; exact decide_eq_true a)) (ob (r158 (x := 0) (y := 7) rfl rfl) (oT (znT (by rw [decide_eq_true b.1, decide_eq_true b.2]; rfl)) k)))
  by_cases c : y1 = 0
  · subst c
    obtain ⟨m1, d1, d2⟩ := c66_7 (F := F) (by omega) I (N := N) (by omega) F (a := 0) (m := m) R (fun j hj => absurd hj (Nat.not_lt_zero j)) (Nat.zero_le _) (by omega)
    have r77 := c77_9 (F := F) R
    rw [e0] at r77
    have d66 : D66_67_9 F m = some (_, m1) := ob r77 d1
    refine ⟨_, m1, gc (oF (by decide) (ob d66 rfl)), d2.1 80 (by decide), fun m2 e2 => ?_⟩
    have z := r264_29 (F := F) (m := m2) (by omega) e2 I e0 (by omega) (v1 := 0) F (h := 0) (v := 0) (Nat.zero_le _) (by omega)
    rw [Nat.sub_zero, ← rcn_eq I (by omega)] at z
    exact ⟨m2, gr e2 (oF (by decide) z)⟩
  · have c0 : ¬ y1.toInt = 0 := fun z => c (Int32.toInt_inj.mp (z.trans l0.symm))
    have g1 : zcmp .ne y1 0 = true := (zcni (y := 0) rfl).trans (by rw [decide_eq_false c0]; rfl)
    obtain ⟨m1, d1, d2, d3⟩ := c63 (F := F) (m := m) (by omega) I e0 (by omega) R
    have k80 : m1.1 80 = m.1 80 := d2 80 (by decide) (by decide)
    have z : ∀ m2 : xS, m2.1 80 = s → D241 F m2 = match srg s N (N - 1) 2 with
        | some q => some (Int32.ofNat q.1, xu m2 70 26 (Int32.ofNat q.2))
        | none => some (0, m2) := fun m2 e2 => by
      have z := r241 (F := F) (m := m2) (N := N) hF (by rw [e2]; exact e0) (by omega) (by omega)
      rw [e2] at z
      exact z
    have e12 : (y1 - 2).toInt = y1.toInt - 2 := by
      rw [xs1 (by omega) (by omega), l2]
    cases w : srg s N (N - 1) 2 with
    | none =>
      rw [w] at d3 z
      have d3 : m1.1 67 1 = 0 := d3
      by_cases o : y1.toInt = 1
      · have g2 : zcmp .ne y1 1 = false := (zcni (y := 1) rfl).trans (by rw [decide_eq_true o]; rfl)
        exact ⟨0, m1, gc (oT g1 (ob d1 (oF g2 (by rw [d3])))), k80, fun m2 e2 => ⟨m2, gr e2 (oT g1 (ob (z m2 e2) (oF g2 rfl)))⟩⟩
      · have g2 : zcmp .ne y1 1 = true := (zcni (y := 1) rfl).trans (by rw [decide_eq_false o]; rfl)
        have g3 : zcmp .ge (y1 - 2) 0 = true := zc.trans (decide_eq_true (by omega))
        exact ⟨-2, m1, gc (oT g1 (ob d1 (oT g2 (oT (by rw [d3]; exact g3) rfl)))), k80, fun m2 e2 => ⟨m2, gr e2 (oT g1 (ob (z m2 e2) (oT g2 (oT g3 rfl))))⟩⟩
    | some q =>
      rw [w] at d3 z
      obtain ⟨f1, f2⟩ := d3
      obtain ⟨b1, b2, b3, b4⟩ := srg_i w
      have eq1 := nJ (n := q.1) (by omega)
      by_cases o : y1.toInt = 1
      · have g2 : zcmp .ne y1 1 = false := (zcni (y := 1) rfl).trans (by rw [decide_eq_true o]; rfl)
        exact ⟨Int32.ofNat q.1, m1, gc (oT g1 (ob d1 (oF g2 (by rw [f1])))), k80, fun m2 e2 => ⟨_, gr e2 (oT g1 (ob (z m2 e2) (oF g2 rfl)))⟩⟩
      · have g2 : zcmp .ne y1 1 = true := (zcni (y := 1) rfl).trans (by rw [decide_eq_false o]; rfl)
        by_cases t : (q.1 : Int) ≤ y1.toInt - 2
        · have g3 : zcmp .ge (y1 - 2) (Int32.ofNat q.1) = true := zc.trans (decide_eq_true (by omega))
          exact ⟨-2, m1, gc (oT g1 (ob d1 (oT g2 (oT (by rw [f1]; exact g3) rfl)))), k80, fun m2 e2 => ⟨_, gr e2 (oT g1 (ob (z m2 e2) (oT g2 (oT g3 rfl))))⟩⟩
        · have g3 : zcmp .ge (y1 - 2) (Int32.ofNat q.1) = false := zc.trans (decide_eq_false (by omega))
          obtain ⟨k, ek⟩ : ∃ k : Nat, y1.toInt - 2 = (k : Int) := ⟨(y1.toInt - 2).toNat, by omega⟩
          have fk : y1 - 2 = Int32.ofNat k := i32n (e12.trans ek)
          have ek2 := nJ (n := k) (by omega)
          have p6 : N ^ q.1 ≤ 117649 := p6b (by omega) (by omega)
          refine ⟨Int32.ofNat (dgt N q.1 q.2 k), m1, gc (oT g1 (ob d1 (oT g2 (oF (by rw [f1]; exact g3) ?_)))), k80, fun m2 e2 => ?_⟩
          · rw [fk, if_pos (gxb ek2 (by omega)), gxn ek2, f2 k (by omega)]
          · have r := r236 (F := F) (m := xu m2 70 26 (Int32.ofNat q.2)) (c := q.2) (n := q.1) (N := N) (k := k) (v1 := (xu m2 70 26 (Int32.ofNat q.2)).1 70 26) (v2 := Int32.ofNat q.1) (v3 := y1 - 2) (by omega) (xu_s _ _ _ _) rfl fk (by rw [xu_row (by decide), e2]; exact e0) (by omega) (by omega) (by omega) (by omega) (by omega)
            exact ⟨_, gr e2 (oT g1 (ob (z m2 e2) (oT g2 (oF g3 (ob r rfl)))))⟩
end PRGR
theorem nRings {y1 : Int32} : lP MR 146 264 [.int y1] true := eC (as := [y1].map .int) M21 (Dc := D146_0 200000 y1) (Dr := D264 200000 y1) (fun {_} H {_} h => Z146_0 H h (by decide)) (fun {_} H {_} h => Z264 H h (by decide)) (eH2 (yt1089 yXx.1) (na := 1) (bl := []) (by decide +kernel) [y1] rfl (fun s hs => by cases hs)) (fun m R I => vRings (F := 200000) (by decide) rfl R I.1)
