/-! Rings: the reference's search and the class's. -/
/-- the first of the shortest rings: of how many houses, its code -/
def srg (s : Nat → Int32) (N : Nat) : Nat → Nat → Option (Nat × Nat)
  | 0, _ => none
  | r + 1, n => match (List.range (N ^ n)).find? (rgc s N n) with
    | some c => some (n, c)
    | none => srg s N r (n + 1)
section PSRG
variable {m : xS} {F N : Nat} {s : Nat → Int32}
theorem r241_14 {n : Nat} (hF : 100 ≤ F) (e0 : m.1 80 0 = Int32.ofNat N) (N1 : 1 ≤ N) (hN : N ≤ 6) (n1 : 1 ≤ n) (hn : n ≤ 6) {g2 : Int32 → xS → Option (Int32 × xS)} : ∀ (f : Nat) {c : Nat}, c ≤ N ^ n → N ^ n - c < f → D241_14 F g2 f (Int32.ofNat n) (Int32.ofNat c) m = match (List.range' c (N ^ n - c)).find? (rgc (m.1 80) N n) with
    | some c' => some (Int32.ofNat n, xu m 70 26 (Int32.ofNat c'))
    | none => g2 (Int32.ofNat (n + 1)) m := by
  have pb := p6b (N := N) (k := n) (by omega) hn
  intro f
  induction f with
  | zero => intro c _ l; omega
  | succ f ih =>
    intro c hc l
    have ec := xI (a := c) (by omega)
    have ep := xI (a := N ^ n) (by omega)
    unfold D241_14
    refine ob (r235 hF e0 rfl N1 (by omega) hn) (oi (p := decide ((Int32.ofNat (N ^ n)).toInt ≤ (Int32.ofNat c).toInt)) zc (fun h => ?_) (fun h => ?_))
    · have h := of_decide_eq_true h
      rw [show N ^ n - c = 0 by omega, show Int32.ofNat n + Int32.ofInt 1 = Int32.ofNat (n + 1) from xadd (a := n) (b := 1) (by omega)]
      rfl
    · have h := of_decide_eq_false h
      rw [show N ^ n - c = (N ^ n - (c + 1)) + 1 by omega, List.range'_succ, List.find?_cons]
      refine ob (r240 hF rfl rfl e0 N1 hN n1 hn (by omega)) (oi (p := rgc (m.1 80) N n c) pB2 (fun a => ?_) (fun a => ?_))
      · rw [a]
      · rw [a, show Int32.ofNat c + Int32.ofInt 1 = Int32.ofNat (c + 1) from xadd (a := c) (b := 1) (by omega)]
        exact ih (by omega) (by omega)
theorem r241_2 (hF : 120000 ≤ F) (e0 : m.1 80 0 = Int32.ofNat N) (N1 : 1 ≤ N) (hN : N ≤ 6) : ∀ (f : Nat) {n r : Nat}, n + r = N + 1 → 1 ≤ n → r < f → D241_2 F f (Int32.ofNat n) m = match srg (m.1 80) N r n with
    | some q => some (Int32.ofNat q.1, xu m 70 26 (Int32.ofNat q.2))
    | none => some (0, m) := by
  intro f
  induction f with
  | zero => intro n r _ _ l; omega
  | succ f ih =>
    intro n r hr n1 l
    have en := nJ (n := n) (by omega)
    have eN := nJ (n := N) (by omega)
    unfold D241_2
    rw [e0]
    refine oi (p := decide ((Int32.ofNat N).toInt < (Int32.ofNat n).toInt)) zcgt (fun h => ?_) (fun h => ?_)
    · have h := of_decide_eq_true h
      rw [show r = 0 by omega]
      rfl
    · have h := of_decide_eq_false h
      obtain ⟨r', rfl⟩ : ∃ r', r = r' + 1 := ⟨r - 1, by omega⟩
      have pb := p6b (N := N) (k := n) (by omega) (by omega)
      have z := r241_14 (F := F) (n := n) (by omega) e0 N1 hN n1 (by omega) (g2 := D241_2 F f) F (c := 0) (by omega) (by omega)
      rw [Nat.sub_zero, ← List.range_eq_range'] at z
      refine z.trans ?_
      unfold srg
      cases (List.range (N ^ n)).find? (rgc (m.1 80) N n) with
      | some c => rfl
      | none => exact ih (by omega) (by omega) (by omega)
theorem r241 (hF : 120000 ≤ F) (e0 : m.1 80 0 = Int32.ofNat N) (N1 : 1 ≤ N) (hN : N ≤ 6) : D241 F m = match srg (m.1 80) N (N - 1) 2 with
    | some q => some (Int32.ofNat q.1, xu m 70 26 (Int32.ofNat q.2))
    | none => some (0, m) := by
  unfold D241
  exact r241_2 hF e0 N1 hN F (n := 2) (by omega) (by omega) (by omega)
theorem tbn {b h : Nat} (hb : b < 64) (hh : h < 6) : zcmp .ne ((Int32.ofNat b >>> (Int32.ofNat h &&& 31)) &&& 1) 0 = b.testBit h := by
  have key : (List.range 64).all (fun b => (List.range 6).all (fun h => zcmp .ne ((Int32.ofNat b >>> (Int32.ofNat h &&& 31)) &&& 1) 0 == b.testBit h)) = true := by decide +kernel
  exact eq_of_beq (List.all_eq_true.mp (List.all_eq_true.mp key b (List.mem_range.mpr hb)) h (List.mem_range.mpr hh))
theorem b2p {h : Nat} (hh : h < 6) : ((1 : Int32) <<< (Int32.ofNat h &&& 31)) = Int32.ofNat (2 ^ h) ∧ 2 ^ h < 64 := by
  have key : (List.range 6).all (fun h => ((1 : Int32) <<< (Int32.ofNat h &&& 31)) == Int32.ofNat (2 ^ h) && decide (2 ^ h < 64)) = true := by decide +kernel
  have k := List.all_eq_true.mp key h (List.mem_range.mpr hh)
  rw [Bool.and_eq_true] at k
  exact ⟨eq_of_beq k.1, of_decide_eq_true k.2⟩
/-- what the class's row keeps -/
def Rw (m m' : xS) (f : Nat) : Prop := (∀ a, a ≠ 68 → m'.1 a = m.1 a) ∧ ∀ j, j < f → m'.1 68 j = m.1 68 j
theorem Rw_t {m1 m2 m3 : xS} {f : Nat} (h1 : Rw m1 m2 f) (h2 : Rw m2 m3 f) : Rw m1 m3 f := ⟨fun a ha => (h2.1 a ha).trans (h1.1 a ha), fun j hj => (h2.2 j hj).trans (h1.2 j hj)⟩
/-- what a search comes to -/
def cQr (m : xS) (f k : Nat) (o : Option (List Nat)) (D : Option (Int32 × xS)) : Prop := ∃ m', Rw m m' f ∧ (match o with
  | some t => D = some (1, m') ∧ t.length = k ∧ ∀ j, j < k → m'.1 68 (f + j) = Int32.ofNat (t.getD j 0)
  | none => D = some (0, m'))
theorem pow0 (I : vI s) {a d : Nat} (ha : a < 6) (hd : d < 6) : zcmp .le (s (82 + 6 * a + d)) 0 = !pow s a d := by
  have b := I.2.2.2.2 a d ha hd
  rw [zcle]
  unfold pow
  rw [Bool.not_not]
  by_cases z : s (82 + 6 * a + d) = 0
  · rw [z]
    rfl
  · have nz : (s (82 + 6 * a + d)).toInt ≠ 0 := fun y => z (Int32.toInt_inj.mp y)
    rw [decide_eq_false (by show ¬ _ ≤ (0 : Int); omega)]
    simp [z]
section E64
variable {a b f h fu : Nat} {slf : Int32 → Int32 → Int32 → xS → Option (Int32 × xS)}
theorem e64_1 (R : R32 s (m.1 10)) (e0 : s 0 = Int32.ofNat N) (hN : N ≤ 6) (hh : h < 2000) (l : N ≤ h) : D64_67_9_46 F slf (fu + 1) (Int32.ofNat a) (Int32.ofNat b) (Int32.ofNat f) (Int32.ofNat h) m = some (0, m) := by
  have eh := nJ (n := h) hh
  have eN := nJ (n := N) (by omega)
  unfold D64_67_9_46
  exact ob (c77_9 R) (oT (zc.trans (decide_eq_true (by show (s 0).toInt ≤ _; rw [e0]; omega))) rfl)
theorem e64_2 (I : vI s) (R : R32 s (m.1 10)) (e0 : s 0 = Int32.ofNat N) (hN : N ≤ 6) (ha : a < 6) (hb : b < 64) (l : h < N) (q : pow s a h = false ∨ b.testBit h = true) : D64_67_9_46 F slf (fu + 1) (Int32.ofNat a) (Int32.ofNat b) (Int32.ofNat f) (Int32.ofNat h) m = D64_67_9_105 F slf (D64_67_9_46 F slf fu) (Int32.ofNat a) (Int32.ofNat b) (Int32.ofNat f) (Int32.ofNat h) m := by
  have eh := nJ (n := h) (by omega)
  have eN := nJ (n := N) (by omega)
  have k := pow0 I ha (d := h) (by omega)
  conv => lhs; unfold D64_67_9_46
  refine ob (c77_9 R) (oF (zc.trans (decide_eq_false (by show ¬ (s 0).toInt ≤ _; rw [e0]; omega))) (ob (c94_9 R rfl rfl ha (by omega)) ?_))
  by_cases p1 : pow s a h = true
  · rw [p1] at k
    rcases q with q | q
    · rw [p1] at q
      cases q
    · exact oF k (oT ((tbn hb (by omega)).trans q) rfl)
  · rw [bF p1] at k
    exact oT k rfl
theorem e64_3 {v : Int32} {m1 : xS} (I : vI s) (R : R32 s (m.1 10)) (e0 : s 0 = Int32.ofNat N) (hN : N ≤ 6) (ha : a < 6) (hb : b < 64) (hf : f < 6) (l : h < N) (p1 : pow s a h = true) (p2 : b.testBit h = false) (d : slf (Int32.ofNat h) (Int32.ofNat (b ||| 2 ^ h)) (Int32.ofNat (f + 1)) (xu m 68 f (Int32.ofNat h)) = some (v, m1)) : D64_67_9_46 F slf (fu + 1) (Int32.ofNat a) (Int32.ofNat b) (Int32.ofNat f) (Int32.ofNat h) m = if zcmp .eq v 0 = true then D64_67_9_105 F slf (D64_67_9_46 F slf fu) (Int32.ofNat a) (Int32.ofNat b) (Int32.ofNat f) (Int32.ofNat h) m1 else some (1, m1) := by
  have eh := nJ (n := h) (by omega)
  have eN := nJ (n := N) (by omega)
  have k := pow0 I ha (d := h) (by omega)
  rw [p1] at k
  have nx1 : Int32.ofNat f + 1 = Int32.ofNat (f + 1) := xadd (a := f) (b := 1) (by omega)
  conv => lhs; unfold D64_67_9_46
  refine ob (c77_9 R) (oF (zc.trans (decide_eq_false (by show ¬ (s 0).toInt ≤ _; rw [e0]; omega))) (ob (c94_9 R rfl rfl ha (by omega)) (oF k (oF ((tbn hb (by omega)).trans p2) (oT (gxb (nJ (by omega)) hf) (ob (a := v) (m := m1) ?_ rfl))))))
  dsimp only
  rw [(bor hb (by omega)).1, nx1, gxn (nJ (n := f) (by omega))]
  exact d
end E64
theorem c64_46 {n l a b f k : Nat} (I : vI s) (e0 : s 0 = Int32.ofNat N) (hN : N ≤ 6) (ha : a < 6) (hb : b < 64) (hf1 : 1 ≤ f) (hf : f < 6) {slf : Int32 → Int32 → Int32 → xS → Option (Int32 × xS)} (hs : ∀ {h : Nat} {m : xS}, h < N → R32 s (m.1 10) → m.1 67 1 = Int32.ofNat n → m.1 68 0 = Int32.ofNat l → cQr m (f + 1) k (cl s N l h (b ||| 2 ^ h) k) (slf (Int32.ofNat h) (Int32.ofNat (b ||| 2 ^ h)) (Int32.ofNat (f + 1)) m)) : ∀ (fu : Nat) {h : Nat} {m : xS}, h ≤ N → N - h < fu → R32 s (m.1 10) → m.1 67 1 = Int32.ofNat n → m.1 68 0 = Int32.ofNat l → cQr m f (k + 1) ((List.range' h (N - h)).findSome? (fun h => if (pow s a h && !b.testBit h) = true then (cl s N l h (b ||| 2 ^ h) k).map (fun r => h :: r) else none)) (D64_67_9_46 F slf fu (Int32.ofNat a) (Int32.ofNat b) (Int32.ofNat f) (Int32.ofNat h) m) := by
  intro fu
  induction fu with
  | zero => intro h m _ lf; omega
  | succ fu ih =>
    intro h m hh lf R e67 e68
    by_cases hN2 : N ≤ h
    · rw [show N - h = 0 by omega, e64_1 R e0 hN (by omega) hN2]
      exact ⟨m, ⟨fun _ _ => rfl, fun _ _ => rfl⟩, rfl⟩
    · have next : ∀ {m : xS}, R32 s (m.1 10) → m.1 67 1 = Int32.ofNat n → m.1 68 0 = Int32.ofNat l → cQr m f (k + 1) ((List.range' (h + 1) (N - (h + 1))).findSome? (fun h => if (pow s a h && !b.testBit h) = true then (cl s N l h (b ||| 2 ^ h) k).map (fun r => h :: r) else none)) (D64_67_9_105 F slf (D64_67_9_46 F slf fu) (Int32.ofNat a) (Int32.ofNat b) (Int32.ofNat f) (Int32.ofNat h) m) := fun {m} R e67 e68 => by
        unfold D64_67_9_105
        rw [show Int32.ofNat h + Int32.ofInt 1 = Int32.ofNat (h + 1) from xadd (a := h) (b := 1) (by omega)]
        exact ih (by omega) (by omega) R e67 e68
      rw [show N - h = (N - (h + 1)) + 1 by omega, List.range'_succ, List.findSome?_cons]
      by_cases p : (pow s a h && !b.testBit h) = true
      · rw [if_pos p]
        rw [Bool.and_eq_true, Bool.not_eq_true'] at p
        have R2 : R32 s ((xu m 68 f (Int32.ofNat h)).1 10) := by
          have : (xu m 68 f (Int32.ofNat h)).1 10 = m.1 10 := funext fun j => xu_o (fun z => absurd z.1 (by decide))
          rw [this]
          exact R
        obtain ⟨m1, w1, q1⟩ := hs (h := h) (m := xu m 68 f (Int32.ofNat h)) (by omega) R2 ((xu_o (by omega)).trans e67) ((xu_o (by omega)).trans e68)
        have wm : Rw m m1 f := ⟨fun a ha => (w1.1 a ha).trans (funext fun j => xu_o (fun z => ha z.1)), fun j hj => (w1.2 j (by omega)).trans (xu_o (by omega))⟩
        cases e : cl s N l h (b ||| 2 ^ h) k with
        | some t =>
          rw [e] at q1
          obtain ⟨d1, d2, d3⟩ := q1
          rw [e64_3 I R e0 hN ha hb hf (by omega) p.1 p.2 d1]
          refine ⟨m1, wm, oF (by decide) rfl, by rw [List.length_cons, d2], fun j hj => ?_⟩
          cases j with
          | zero => exact (w1.2 f (by omega)).trans (xu_s _ _ _ _)
          | succ j =>
            rw [show f + (j + 1) = f + 1 + j by omega, d3 j (by omega)]
            rfl
        | none =>
          rw [e] at q1
          rw [e64_3 I R e0 hN ha hb hf (by omega) p.1 p.2 q1, if_pos (by decide)]
          have k68 : m1.1 68 0 = Int32.ofNat l := (wm.2 0 hf1).trans e68
          have k67 : m1.1 67 1 = Int32.ofNat n := by rw [wm.1 67 (by decide)]; exact e67
          obtain ⟨m', w, q⟩ := next (m := m1) (by rw [wm.1 10 (by decide)]; exact R) k67 k68
          exact ⟨m', Rw_t wm w, q⟩
      · rw [if_neg p, e64_2 I R e0 hN ha hb (by omega) (by
          cases e1 : pow s a h with
          | false => exact Or.inl rfl
          | true =>
            rw [e1] at p
            cases e2 : b.testBit h with
            | true => exact Or.inr rfl
            | false => rw [e2] at p; exact absurd rfl p)]
        exact next R e67 e68
/-- closes -/
theorem c64 {n l : Nat} (hF : 100 ≤ F) (I : vI s) (e0 : s 0 = Int32.ofNat N) (hN : N ≤ 6) (hn : n ≤ 6) (hl : l < N) : ∀ (g : Nat) {a b f k : Nat} {m : xS}, k < g → f + k = n → 1 ≤ f → a < 6 → b < 64 → R32 s (m.1 10) → m.1 67 1 = Int32.ofNat n → m.1 68 0 = Int32.ofNat l → cQr m f k (cl s N l a b k) (D64_67_9r F g (Int32.ofNat a) (Int32.ofNat b) (Int32.ofNat f) m) := by
  intro g
  induction g with
  | zero => intro a b f k m lk; omega
  | succ g ih =>
    intro a b f k m lk hfk hf ha hb R e67 e68
    have ef := nJ (n := f) (by omega)
    have en := nJ (n := n) (by omega)
    show cQr m f k (cl s N l a b k) (D64_67_9 F (D64_67_9r F g) (Int32.ofNat a) (Int32.ofNat b) (Int32.ofNat f) m)
    unfold D64_67_9
    rw [e67]
    cases k with
    | zero =>
      rw [if_pos (zc.trans (decide_eq_true (by omega)))]
      unfold D64_67_9_16 cl
      refine ⟨m, ⟨fun _ _ => rfl, fun _ _ => rfl⟩, ?_⟩
      have k := pow0 I ha (d := l) (by omega)
      by_cases p : pow s a l = true
      · rw [if_pos p]
        rw [p] at k
        exact ⟨ob (c94_9 R rfl e68 ha (by omega)) (oF k rfl), rfl, fun j hj => absurd hj (Nat.not_lt_zero j)⟩
      · rw [if_neg p]
        rw [bF p] at k
        exact ob (c94_9 R rfl e68 ha (by omega)) (oT k rfl)
    | succ k =>
      have nz : ¬ zcmp .ge (Int32.ofNat f) (Int32.ofNat n) = true := by
        rw [zc, decide_eq_false (by omega)]
        decide
      have l6 : zcmp .lt (Int32.ofNat f) 6 = true := zcl.trans (decide_eq_true (by show _ < (6 : Int); omega))
      rw [if_neg nz, if_pos l6, e68, show Int32.ofNat l + 1 = Int32.ofNat (l + 1) from xadd (a := l) (b := 1) (by omega)]
      unfold cl
      exact c64_46 I e0 hN ha hb hf (by omega) (fun {h m} hh R e67 e68 => ih (by omega) (by omega) (by omega) (by omega) (bor hb (by omega)).2 R e67 e68) F (by omega) (by omega) R e67 e68
end PSRG
