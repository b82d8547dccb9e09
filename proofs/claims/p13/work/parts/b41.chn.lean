/-! Chains of the reference: rows of houses by codes. -/
/-- a code is a chain -/
def chk (s : Nat → Int32) (t h N n c : Nat) : Bool := dgt N n c (n - 1) == h && (nodp 0 (dg N n c) && (!((dg N n c).any (· == (s (10 + 6 * t)).toInt.toNat)) && (!((dg N n c).any (· == (s (10 + 6 * t + 3)).toInt.toNat)) && trs s (s (10 + 6 * t + 3)).toInt.toNat (dg N n c))))
/-- lengths one behind the other: how long the first chain found is, its code -/
def cho (s : Nat → Int32) (t h N : Nat) (lg : Bool) : Nat → Nat → Option (Nat × Nat)
  | _, 0 => none
  | k, r + 1 => match (List.range (N ^ (if lg = true then N - k else k))).find? (chk s t h N (if lg = true then N - k else k)) with
    | some c => some (if lg = true then N - k else k, c)
    | none => cho s t h N lg (k + 1) r
def cvl (s : Nat → Int32) (t h : Nat) (lg : Bool) : Int32 := if s (10 + 6 * t + 3) = Int32.ofNat h then 0 else if s (10 + 6 * t) = Int32.ofNat h then -1 else match cho s t h (s 0).toInt.toNat lg 1 ((s 0).toInt.toNat - 1) with
  | some q => Int32.ofNat q.1
  | none => -1
/-- a chain's code alone may have changed -/
def kc (m m' : xS) : Prop := (∀ i j, ¬ (i = 70 ∧ j = 27) → m'.1 i j = m.1 i j) ∧ m'.2 = m.2
theorem kc_r (m : xS) : kc m m := ⟨fun _ _ _ => rfl, rfl⟩
theorem cho_i {s : Nat → Int32} {t h N : Nat} {lg : Bool} : ∀ {r k : Nat} {q : Nat × Nat}, cho s t h N lg k r = some q → k + r = N → 1 ≤ k → (1 ≤ q.1 ∧ q.1 < N) ∧ q.2 < N ^ q.1 ∧ chk s t h N q.1 q.2 = true
  | 0, _, _, h, _, _ => by cases h
  | r + 1, k, q, e, hk, k1 => by
    have e : (match (List.range (N ^ (if lg = true then N - k else k))).find? (chk s t h N (if lg = true then N - k else k)) with
      | some c => some (if lg = true then N - k else k, c)
      | none => cho s t h N lg (k + 1) r) = some q := e
    split at e
    · next c hc =>
      cases e
      have b := List.mem_range.mp (List.mem_of_find?_eq_some hc)
      refine ⟨?_, b, List.find?_some hc⟩
      show 1 ≤ (if lg = true then N - k else k) ∧ (if lg = true then N - k else k) < N
      split <;> omega
    · exact cho_i e (by omega) (by omega)
section PCHN
variable {m : xS} {F : Nat}
theorem r249 {t h N n c : Nat} (hF : 500 ≤ F) (I : vI (m.1 80)) (ht : (t : Int) < (m.1 80 2).toInt) (e0 : m.1 80 0 = Int32.ofNat N) (N1 : 1 ≤ N) (hN : N ≤ 6) (hh : h < N) (n1 : 1 ≤ n) (hn : n ≤ 6) (hc : c < 2147483648) : D249 F (Int32.ofNat t) (Int32.ofNat h) (Int32.ofNat c) (Int32.ofNat n) m = some (pB (chk (m.1 80) t h N n c), m) := by
  have t6 : t < 6 := by have := I_nt I; omega
  have it := I.2.1 t ht
  have n6 := I_n6 I
  have eo : m.1 80 (10 + 6 * t) = Int32.ofNat (m.1 80 (10 + 6 * t)).toInt.toNat := i32n (by omega)
  have eh : m.1 80 (10 + 6 * t + 3) = Int32.ofNat (m.1 80 (10 + 6 * t + 3)).toInt.toNat := i32n (by omega)
  have dl := dgt_lt (n := n) (c := c) (k := n - 1) N1
  have c1 : zcmp .ne (Int32.ofNat (dgt N n c (n - 1))) (Int32.ofNat h) = !(dgt N n c (n - 1) == h) := by
    rw [zcn]
    congr 1
    by_cases z : dgt N n c (n - 1) = h
    · rw [z]
      simp
    · rw [beq_eq_false_iff_ne.mpr z]
      exact beq_eq_false_iff_ne.mpr (fun y => z (by
        have y := congrArg Int32.toInt y
        rw [nJ (by omega), nJ (by omega)] at y
        omega))
  unfold D249
  refine ob (r236 (k := n - 1) (by omega) rfl rfl ((o1 (n := n - 1) (by omega)).2.1 ▸ by rw [show n - 1 + 1 = n by omega]) e0 N1 hN (by omega) hn hc) ?_
  unfold chk
  by_cases a1 : (dgt N n c (n - 1) == h) = true
  · rw [a1, Bool.true_and]
    refine oF (c1.trans (by rw [a1]; rfl)) (ob (r237 (by omega) rfl rfl e0 N1 hN hn hc) ?_)
    by_cases a2 : nodp 0 (dg N n c) = true
    · rw [a2, Bool.true_and]
      refine oT (znT rfl) (ob (r208 (w := 0) rfl rfl t6 (by decide)) (ob (r238 (by omega) rfl rfl eo e0 N1 hN hn hc (by omega)) ?_))
      by_cases a3 : ((dg N n c).any (· == (m.1 80 (10 + 6 * t)).toInt.toNat)) = true
      · rw [a3]
        exact oT (znT rfl) rfl
      · rw [bF a3, Bool.not_false, Bool.true_and]
        refine oF (znF rfl) (ob (r208 (w := 3) rfl rfl t6 (by decide)) (ob (r238 (by omega) rfl rfl eh e0 N1 hN hn hc (by omega)) ?_))
        by_cases a4 : ((dg N n c).any (· == (m.1 80 (10 + 6 * t + 3)).toInt.toNat)) = true
        · rw [a4]
          exact oF (zeF rfl) rfl
        · rw [bF a4, Bool.not_false, Bool.true_and]
          refine oT (zeT rfl) (ob (r208 (w := 3) rfl rfl t6 (by decide)) (ob (r239 (by omega) eh rfl rfl e0 N1 hN hn hc (by omega)) ?_))
          generalize trs (m.1 80) (m.1 80 (10 + 6 * t + 3)).toInt.toNat (dg N n c) = b
          cases b <;> rfl
    · rw [bF a2, Bool.false_and]
      exact oF (znF rfl) rfl
  · rw [bF a1, Bool.false_and]
    exact oT (c1.trans (by rw [bF a1]; rfl)) rfl
theorem r250_3 {t h N n : Nat} (hF : 500 ≤ F) (I : vI (m.1 80)) (ht : (t : Int) < (m.1 80 2).toInt) (e0 : m.1 80 0 = Int32.ofNat N) (N1 : 1 ≤ N) (hN : N ≤ 6) (hh : h < N) (n1 : 1 ≤ n) (hn : n ≤ 6) : ∀ (f : Nat) {c : Nat}, c ≤ N ^ n → N ^ n - c < f → D250_3 F f (Int32.ofNat t) (Int32.ofNat h) (Int32.ofNat n) (Int32.ofNat c) m = match (List.range' c (N ^ n - c)).find? (chk (m.1 80) t h N n) with
    | some c => some (1, xu m 70 27 (Int32.ofNat c))
    | none => some (0, m) := by
  have b := p6b (N := N) (k := n) (by omega) hn
  intro f
  induction f with
  | zero => intro c _ l; omega
  | succ f ih =>
    intro c hc l
    have ec := xI (a := c) (by omega)
    have en := xI (a := N ^ n) (by omega)
    unfold D250_3
    refine ob (r235 (by omega) e0 rfl N1 (by omega) hn) ?_
    by_cases q : N ^ n ≤ c
    · rw [show N ^ n - c = 0 by omega]
      exact oT (zc.trans (decide_eq_true (by show (Int32.ofNat (N ^ n)).toInt ≤ _; omega))) rfl
    · rw [show N ^ n - c = (N ^ n - (c + 1)) + 1 by omega, List.range'_succ, List.find?_cons]
      refine oF (zc.trans (decide_eq_false (by show ¬ (Int32.ofNat (N ^ n)).toInt ≤ _; omega))) (ob (r249 hF I ht e0 N1 hN hh n1 hn (by omega)) ?_)
      cases z : chk (m.1 80) t h N n c with
      | true => exact oT (znT rfl) rfl
      | false =>
        refine oF (znF rfl) ?_
        rw [show Int32.ofNat c + Int32.ofInt 1 = Int32.ofNat (c + 1) from xadd (a := c) (b := 1) (by omega)]
        exact ih (by omega) (by omega)
theorem r250 {t h N n : Nat} (hF : 120000 ≤ F) (I : vI (m.1 80)) (ht : (t : Int) < (m.1 80 2).toInt) (e0 : m.1 80 0 = Int32.ofNat N) (N1 : 1 ≤ N) (hN : N ≤ 6) (hh : h < N) (n1 : 1 ≤ n) (hn : n ≤ 6) : D250 F (Int32.ofNat t) (Int32.ofNat h) (Int32.ofNat n) m = match (List.range (N ^ n)).find? (chk (m.1 80) t h N n) with
    | some c => some (1, xu m 70 27 (Int32.ofNat c))
    | none => some (0, m) := by
  have b := p6b (N := N) (k := n) (by omega) hn
  have z := r250_3 (F := F) (by omega) I ht e0 N1 hN hh n1 hn F (c := 0) (by omega) (by omega)
  rw [Nat.sub_zero, ← List.range_eq_range'] at z
  unfold D250
  exact z
theorem r251_37 {t h N : Nat} {lg : Bool} {v3 : Int32} (hv : zcmp .eq v3 0 = !lg) (hF : 120000 ≤ F) (I : vI (m.1 80)) (ht : (t : Int) < (m.1 80 2).toInt) (e0 : m.1 80 0 = Int32.ofNat N) (N1 : 1 ≤ N) (hN : N ≤ 6) (hh : h < N) : ∀ (f : Nat) {k : Nat}, 1 ≤ k → k ≤ N → N - k < f → D251_37 F f (Int32.ofNat t) (Int32.ofNat h) v3 (Int32.ofNat (N - 1)) (Int32.ofNat k) m = match cho (m.1 80) t h N lg k (N - k) with
    | some q => some (Int32.ofNat q.1, xu m 70 27 (Int32.ofNat q.2))
    | none => some (-1, m) := by
  intro f
  induction f with
  | zero => intro k _ _ l; omega
  | succ f ih =>
    intro k k1 hk l
    have ek := nJ (n := k) (by omega)
    have eN := nJ (n := N - 1) (by omega)
    unfold D251_37
    by_cases q : N ≤ k
    · rw [show N - k = 0 by omega]
      exact oT (zcgt.trans (decide_eq_true (by omega))) rfl
    · rw [show N - k = (N - (k + 1)) + 1 by omega]
      have g : zcmp .gt (Int32.ofNat k) (Int32.ofNat (N - 1)) = false := zcgt.trans (decide_eq_false (by omega))
      have nx : ∀ {n : Nat}, (if lg = true then N - k else k) = n → D251_60 F (D251_37 F f) (Int32.ofNat t) (Int32.ofNat h) v3 (Int32.ofNat (N - 1)) (Int32.ofNat k) (Int32.ofNat n) m = match cho (m.1 80) t h N lg k ((N - (k + 1)) + 1) with
        | some q => some (Int32.ofNat q.1, xu m 70 27 (Int32.ofNat q.2))
        | none => some (-1, m) := fun {n} e => by
        have n1 : 1 ≤ n ∧ n ≤ 6 := by
          rw [← e]
          split <;> omega
        have z := r250 (F := F) hF I ht e0 N1 hN hh n1.1 n1.2
        unfold D251_60
        show _ = match (match (List.range (N ^ (if lg = true then N - k else k))).find? (chk (m.1 80) t h N (if lg = true then N - k else k)) with
          | some c => some (if lg = true then N - k else k, c)
          | none => cho (m.1 80) t h N lg (k + 1) (N - (k + 1))) with
          | some q => some (Int32.ofNat q.1, xu m 70 27 (Int32.ofNat q.2))
          | none => some (-1, m)
        rw [e]
        cases y : (List.range (N ^ n)).find? (chk (m.1 80) t h N n) with
        | some c =>
          rw [y] at z
          exact ob z (oF (show zcmp .eq (1 : Int32) 0 = false by decide) rfl)
        | none =>
          rw [y] at z
          refine ob z (oT (show zcmp .eq (0 : Int32) 0 = true by decide) ?_)
          rw [show Int32.ofNat k + Int32.ofInt 1 = Int32.ofNat (k + 1) from xadd (a := k) (b := 1) (by omega)]
          exact ih (by omega) (by omega) (by omega)
      cases lg with
      | false => exact oF g (oT hv (nx rfl))
      | true =>
        refine oF g (oF hv ?_)
        rw [show (Int32.ofNat (N - 1) + 1) - Int32.ofNat k = Int32.ofNat (N - k) from by
          rw [show Int32.ofNat (N - 1) + 1 = Int32.ofNat N from (xadd (a := N - 1) (b := 1) (by omega)).trans (by rw [show N - 1 + 1 = N by omega])]
          exact xsub (by omega) (by omega)]
        exact nx rfl
/-- chainOf -/
theorem r251 {t h : Nat} {lg : Bool} {v3 : Int32} (hv : zcmp .eq v3 0 = !lg) (hF : 120000 ≤ F) (I : vI (m.1 80)) (ht : (t : Int) < (m.1 80 2).toInt) (hh : (h : Int) < (m.1 80 0).toInt) : ∃ m', D251 F (Int32.ofNat t) (Int32.ofNat h) v3 m = some (cvl (m.1 80) t h lg, m') ∧ kc m m' ∧ (¬ m.1 80 (10 + 6 * t + 3) = Int32.ofNat h → ¬ m.1 80 (10 + 6 * t) = Int32.ofNat h → ∀ q, cho (m.1 80) t h (m.1 80 0).toInt.toNat lg 1 ((m.1 80 0).toInt.toNat - 1) = some q → m'.1 70 27 = Int32.ofNat q.2) := by
  have t6 : t < 6 := by have := I_nt I; omega
  have n6 := I_n6 I
  have n0 := I_n0 I
  have e0 : m.1 80 0 = Int32.ofNat (m.1 80 0).toInt.toNat := i32n (by omega)
  unfold D251 cvl
  by_cases a : m.1 80 (10 + 6 * t + 3) = Int32.ofNat h
  · rw [if_pos a]
    exact ⟨m, ob (r208 (w := 3) rfl rfl t6 (by decide)) (oF (by rw [zcn]; show (!(m.1 80 (10 + 6 * t + 3) == Int32.ofNat h)) = false; rw [a, beq_self_eq_true]; rfl) rfl), kc_r m, fun z => absurd a z⟩
  rw [if_neg a]
  have fa : zcmp .ne (m.1 80 (10 + 6 * t + 3)) (Int32.ofNat h) = true := by
    rw [zcn, beq_eq_false_iff_ne.mpr a]
    rfl
  by_cases b : m.1 80 (10 + 6 * t) = Int32.ofNat h
  · rw [if_pos b]
    exact ⟨m, ob (r208 (w := 3) rfl rfl t6 (by decide)) (oT fa (ob (r208 (w := 0) rfl rfl t6 (by decide)) (oF (by rw [zcn]; show (!(m.1 80 (10 + 6 * t) == Int32.ofNat h)) = false; rw [b, beq_self_eq_true]; rfl) rfl))), kc_r m, fun _ z => absurd b z⟩
  rw [if_neg b]
  have fb : zcmp .ne (m.1 80 (10 + 6 * t)) (Int32.ofNat h) = true := by
    rw [zcn, beq_eq_false_iff_ne.mpr b]
    rfl
  have z := r251_37 (F := F) hv hF I ht e0 (by omega) (by omega) (h := h) (by omega) F (k := 1) (Nat.le_refl _) (by omega) (by omega)
  have em : m.1 80 0 - 1 = Int32.ofNat ((m.1 80 0).toInt.toNat - 1) := by
    have y := xsub (a := (m.1 80 0).toInt.toNat) (b := 1) (by omega) (by omega)
    rw [← e0] at y
    exact y
  cases y : cho (m.1 80) t h (m.1 80 0).toInt.toNat lg 1 ((m.1 80 0).toInt.toNat - 1) with
  | some q =>
    rw [y] at z
    refine ⟨_, ob (r208 (w := 3) rfl rfl t6 (by decide)) (oT fa (ob (r208 (w := 0) rfl rfl t6 (by decide)) (oT fb ?_))), ⟨fun i j k => xu_o k, rfl⟩, fun _ _ q' e => by cases e; exact xu_s _ _ _ _⟩
    show D251_37 F F (Int32.ofNat t) (Int32.ofNat h) v3 (m.1 80 0 - 1) 1 m = _
    rw [em]
    exact z
  | none =>
    rw [y] at z
    refine ⟨_, ob (r208 (w := 3) rfl rfl t6 (by decide)) (oT fa (ob (r208 (w := 0) rfl rfl t6 (by decide)) (oT fb ?_))), kc_r m, fun _ _ q' e => by cases e⟩
    show D251_37 F F (Int32.ofNat t) (Int32.ofNat h) v3 (m.1 80 0 - 1) 1 m = _
    rw [em]
    exact z
end PCHN
