/-! Rings: the class finds what the reference finds. -/
section PSRH
variable {m : xS} {F N : Nat} {s : Nat → Int32}
/-- the row of a ring stands -/
def rgO (m : xS) (N : Nat) (q : Nat × Nat) : Prop := m.1 67 1 = Int32.ofNat q.1 ∧ ∀ j, j < q.1 → m.1 68 j = Int32.ofNat (dgt N q.1 q.2 j)
theorem c63_17 {n : Nat} (hF : 100 ≤ F) (I : vI s) (e0 : s 0 = Int32.ofNat N) (hN : N ≤ 6) (n2 : 1 ≤ n) (hn : n ≤ 6) {g2 : Int32 → xS → Option (Unit × xS)} : ∀ (fu : Nat) {l : Nat} {m : xS}, l ≤ N → N - l < fu → R32 s (m.1 10) → m.1 67 1 = Int32.ofNat n → ∃ m' : xS, (∀ a, a ≠ 68 → m'.1 a = m.1 a) ∧ (match (List.range' l (N - l)).findSome? (fun l => (cl s N l l (2 ^ l) (n - 1)).map (fun r => l :: r)) with
    | some r => D63_67_9_17 F g2 fu (Int32.ofNat n) (Int32.ofNat l) m = some ((), m') ∧ ∀ j, j < n → m'.1 68 j = Int32.ofNat (r.getD j 0)
    | none => D63_67_9_17 F g2 fu (Int32.ofNat n) (Int32.ofNat l) m = g2 (Int32.ofNat (n + 1)) m') := by
  intro fu
  induction fu with
  | zero => intro l m _ lf; omega
  | succ fu ih =>
    intro l m hl lf R e67
    have el := nJ (n := l) (by omega)
    have eN := nJ (n := N) (by omega)
    by_cases hN2 : N ≤ l
    · rw [show N - l = 0 by omega]
      refine ⟨m, fun _ _ => rfl, ?_⟩
      show D63_67_9_17 F g2 (fu + 1) (Int32.ofNat n) (Int32.ofNat l) m = _
      unfold D63_67_9_17
      refine ob (c77_9 R) (oT (zc.trans (decide_eq_true (by show (s 0).toInt ≤ _; rw [e0]; omega))) ?_)
      rw [show Int32.ofNat n + Int32.ofInt 1 = Int32.ofNat (n + 1) from xadd (a := n) (b := 1) (by omega)]
    · rw [show N - l = (N - (l + 1)) + 1 by omega, List.range'_succ, List.findSome?_cons]
      have R2 : R32 s ((xu m 68 0 (Int32.ofNat l)).1 10) := by
        have : (xu m 68 0 (Int32.ofNat l)).1 10 = m.1 10 := funext fun j => xu_o (fun z => absurd z.1 (by decide))
        rw [this]
        exact R
      have b2 := b2p (h := l) (by omega)
      obtain ⟨m1, w, q⟩ := c64 (F := F) (n := n) (l := l) (s := s) (N := N) hF I e0 hN hn (by omega) 7 (a := l) (b := 2 ^ l) (f := 1) (k := n - 1) (m := xu m 68 0 (Int32.ofNat l)) (by omega) (by omega) (by omega) (by omega) b2.2 R2 ((xu_o (by omega)).trans e67) (xu_s _ _ _ _)
      have wo : ∀ a, a ≠ 68 → m1.1 a = m.1 a := fun a ha => (w.1 a ha).trans (funext fun j => xu_o (fun z => ha z.1))
      have eq : ∀ {v : Int32}, D64_67_9r F 7 (Int32.ofNat l) (Int32.ofNat (2 ^ l)) (Int32.ofNat 1) (xu m 68 0 (Int32.ofNat l)) = some (v, m1) → D63_67_9_17 F g2 (fu + 1) (Int32.ofNat n) (Int32.ofNat l) m = if zcmp .eq v 0 = true then D63_67_9_17 F g2 fu (Int32.ofNat n) (Int32.ofNat l + Int32.ofInt 1) m1 else some ((), m1) := fun {v} d => by
        conv => lhs; unfold D63_67_9_17
        refine ob (c77_9 R) (oF (zc.trans (decide_eq_false (by show ¬ (s 0).toInt ≤ _; rw [e0]; omega))) (ob (a := v) (m := m1) ?_ rfl))
        dsimp only
        rw [b2.1]
        exact d
      cases e : cl s N l l (2 ^ l) (n - 1) with
      | some t =>
        rw [e] at q
        obtain ⟨d1, d2, d3⟩ := q
        refine ⟨m1, wo, ?_, fun j hj => ?_⟩
        · rw [eq d1]
          exact oF (by decide) rfl
        · cases j with
          | zero => exact (w.2 0 (by omega)).trans (xu_s _ _ _ _)
          | succ j =>
            rw [show j + 1 = 1 + j by omega, d3 j (by omega), show 1 + j = j + 1 by omega]
            rfl
      | none =>
        rw [e] at q
        rw [eq q, if_pos (by decide), show Int32.ofNat l + Int32.ofInt 1 = Int32.ofNat (l + 1) from xadd (a := l) (b := 1) (by omega)]
        obtain ⟨m', w', q'⟩ := ih (l := l + 1) (m := m1) (by omega) (by omega) (by rw [wo 10 (by decide)]; exact R) (by rw [wo 67 (by decide)]; exact e67)
        exact ⟨m', fun a ha => (w' a ha).trans (wo a ha), q'⟩
theorem c63_2 (hF : 100 ≤ F) (I : vI s) (e0 : s 0 = Int32.ofNat N) (hN : N ≤ 6) : ∀ (fu : Nat) {n : Nat} {m : xS}, 1 ≤ n → N + 1 - n < fu → n < 2000 → R32 s (m.1 10) → ∃ m' : xS, D63_67_9_2 F fu (Int32.ofNat n) m = some ((), m') ∧ (∀ a, a ≠ 67 → a ≠ 68 → m'.1 a = m.1 a) ∧ (match srg s N (N + 1 - n) n with
    | some q => rgO m' N q
    | none => m'.1 67 1 = 0) := by
  intro fu
  induction fu with
  | zero => intro n m _ lf; omega
  | succ fu ih =>
    intro n m n1 lf n2 R
    have en := nJ (n := n) (by omega)
    have eN := nJ (n := N) (by omega)
    by_cases h : N < n
    · rw [show N + 1 - n = 0 by omega]
      refine ⟨xu m 67 1 0, ?_, fun a h1 h2 => funext fun j => xu_o (fun z => h1 z.1), xu_s _ _ _ _⟩
      unfold D63_67_9_2
      exact ob (c77_9 R) (oT (zcgt.trans (decide_eq_true (by show (s 0).toInt < _; rw [e0]; omega))) rfl)
    · have R2 : R32 s ((xu m 67 1 (Int32.ofNat n)).1 10) := by
        have : (xu m 67 1 (Int32.ofNat n)).1 10 = m.1 10 := funext fun j => xu_o (fun z => absurd z.1 (by decide))
        rw [this]
        exact R
      have w0 : ∀ a, a ≠ 67 → (xu m 67 1 (Int32.ofNat n)).1 a = m.1 a := fun a ha => funext fun j => xu_o (fun z => ha z.1)
      obtain ⟨m1, w, q⟩ := c63_17 (F := F) (n := n) hF I e0 hN n1 (by omega) (g2 := D63_67_9_2 F fu) F (l := 0) (m := xu m 67 1 (Int32.ofNat n)) (by omega) (by omega) R2 (xu_s _ _ _ _)
      have wo : ∀ a, a ≠ 67 → a ≠ 68 → m1.1 a = m.1 a := fun a h1 h2 => (w a h2).trans (w0 a h1)
      have st : D63_67_9_2 F (fu + 1) (Int32.ofNat n) m = D63_67_9_17 F (D63_67_9_2 F fu) F (Int32.ofNat n) 0 (xu m 67 1 (Int32.ofNat n)) := by
        conv => lhs; unfold D63_67_9_2
        exact ob (c77_9 R) (oF (zcgt.trans (decide_eq_false (by show ¬ (s 0).toInt < _; rw [e0]; omega))) rfl)
      rw [Nat.sub_zero, ← List.range_eq_range'] at q
      obtain ⟨k, rfl⟩ : ∃ k, n = k + 1 := ⟨n - 1, by omega⟩
      rw [show k + 1 - 1 = k by omega, cl_rg, ff_rgc] at q
      rw [show N + 1 - (k + 1) = (N + 1 - (k + 1 + 1)) + 1 by omega]
      unfold srg
      rw [st]
      cases e : (List.range (N ^ (k + 1))).find? (rgc s N (k + 1)) with
      | some c =>
        rw [e] at q
        obtain ⟨d1, d2⟩ := q
        refine ⟨m1, d1, wo, ?_, fun j hj => ?_⟩
        · rw [w 67 (by decide)]
          exact xu_s _ _ _ _
        · have hj : j < k + 1 := hj
          rw [d2 j hj, dg_getD hj]
      | none =>
        rw [e] at q
        obtain ⟨m', d1, w', q'⟩ := ih (n := k + 1 + 1) (m := m1) (by omega) (by omega) (by omega) (by rw [wo 10 (by decide) (by decide)]; exact R)
        exact ⟨m', q.trans d1, fun a h1 h2 => (w' a h1 h2).trans (wo a h1 h2), q'⟩
/-- findShortest -/
theorem c63 (hF : 100 ≤ F) (I : vI s) (e0 : s 0 = Int32.ofNat N) (hN : N ≤ 6) (R : R32 s (m.1 10)) : ∃ m' : xS, D63_67_9 F m = some ((), m') ∧ (∀ a, a ≠ 67 → a ≠ 68 → m'.1 a = m.1 a) ∧ (match srg s N (N - 1) 2 with
    | some q => rgO m' N q
    | none => m'.1 67 1 = 0) := by
  have z := c63_2 (F := F) hF I e0 hN F (n := 2) (m := m) (by omega) (by omega) (by omega) R
  rw [show N + 1 - 2 = N - 1 by omega] at z
  exact z
theorem srg_i : ∀ {r n : Nat} {q : Nat × Nat}, srg s N r n = some q → n ≤ q.1 ∧ q.1 < n + r ∧ q.2 < N ^ q.1 ∧ rgc s N q.1 q.2 = true
  | 0, _, _, h => by cases h
  | r + 1, n, q, h => by
    unfold srg at h
    split at h
    · next c hc =>
      cases h
      have a := List.find?_some hc
      have b := List.mem_of_find?_eq_some hc
      exact ⟨Nat.le_refl _, by omega, List.mem_range.mp b, a⟩
    · have z := srg_i h
      exact ⟨by omega, by omega, z.2.2⟩
/-- a ring's thanks are each one less -/
def pst (s : Nat → Int32) (N n c : Nat) : Nat → Nat → Nat → Int32
  | _, 0 => s
  | k, r + 1 => pst (prg s (dgt N n c k) (dgt N n c ((k + 1) % n))) N n c (k + 1) r
end PSRH
