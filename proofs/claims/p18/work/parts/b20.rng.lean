/-! ring, in pairs. -/
section PSET
variable {m : xS} {F N : Nat} {s : Nat → Int32}
theorem nodp_n : ∀ {t : List Nat} {b : Nat}, nodp b t = true → t.Pairwise (· ≠ ·)
  | [], _, _ => List.Pairwise.nil
  | h :: t, b, e => by
    unfold nodp at e
    rw [Bool.and_eq_true] at e
    refine List.Pairwise.cons (fun x hx z => ?_) (nodp_n e.2)
    have k := nodp_m e.2 x hx
    rw [Nat.testBit_or, ← z, Nat.testBit_two_pow_self, Bool.or_true] at k
    cases k
theorem dg_ne {n c i j : Nat} (e : nodp 0 (dg N n c) = true) (hi : i < n) (hj : j < n) (ne : i ≠ j) : dgt N n c i ≠ dgt N n c j := by
  have p := List.pairwise_iff_getElem.mp (nodp_n e)
  have k : ∀ i j, i < j → j < n → dgt N n c i ≠ dgt N n c j := fun i j h1 h2 => by
    have z := p i j (by rw [dg_len]; omega) (by rw [dg_len]; exact h2) h1
    rw [dg_get (by omega), dg_get h2] at z
    exact z
  rcases Nat.lt_or_gt_of_ne ne with h | h
  · exact k i j h hj
  · exact fun z => k j i h hi z.symm
theorem pst_o {n c : Nat} (N1 : 1 ≤ N) (hN : N ≤ 6) {j : Nat} (hj : j < 82 ∨ 118 ≤ j) : ∀ (r : Nat) {s : Nat → Int32} {k : Nat}, pst s N n c k r j = s j
  | 0, _, _ => rfl
  | r + 1, s, k => by
    show pst (prg s (dgt N n c k) (dgt N n c ((k + 1) % n))) N n c (k + 1) r j = s j
    have d1 := dgt_lt (N := N) (n := n) (c := c) (k := k) N1
    have d2 := dgt_lt (N := N) (n := n) (c := c) (k := (k + 1) % n) N1
    rw [pst_o N1 hN hj r]
    exact cup_o (by omega)
/-- each owes the next one still -/
def pok (s : Nat → Int32) (N n c k : Nat) : Prop := ∀ i, k ≤ i → i < n → pow s (dgt N n c i) (dgt N n c ((i + 1) % n)) = true
theorem pok_s {n c k : Nat} (N1 : 1 ≤ N) (hN : N ≤ 6) (e : nodp 0 (dg N n c) = true) (hk : k < n) (h : pok s N n c k) : pok (prg s (dgt N n c k) (dgt N n c ((k + 1) % n))) N n c (k + 1) := fun i h1 h2 => by
  have z := h i (by omega) h2
  have ne := dg_ne e h2 hk (by omega)
  have a1 := dgt_lt (N := N) (n := n) (c := c) (k := k) N1
  have a2 := dgt_lt (N := N) (n := n) (c := c) (k := (k + 1) % n) N1
  have a3 := dgt_lt (N := N) (n := n) (c := c) (k := i) N1
  have a4 := dgt_lt (N := N) (n := n) (c := c) (k := (i + 1) % n) N1
  unfold pow at z ⊢
  rw [show prg s (dgt N n c k) (dgt N n c ((k + 1) % n)) (82 + 6 * dgt N n c i + dgt N n c ((i + 1) % n)) = s (82 + 6 * dgt N n c i + dgt N n c ((i + 1) % n)) from cup_o (by omega)]
  exact z
theorem pok_0 {n c : Nat} (h : rgc s N n c = true) : pok s N n c 0 := fun i _ hi => by
  unfold rgc at h
  rw [Bool.and_eq_true, List.all_eq_true] at h
  have z := h.2 i (List.mem_range.mpr hi)
  unfold rgk at z
  rw [Bool.and_eq_true] at z
  exact z.2
theorem I_ps {n c : Nat} (N1 : 1 ≤ N) (hN : N ≤ 6) (n2 : 2 ≤ n) (e : nodp 0 (dg N n c) = true) : ∀ (r : Nat) {s : Nat → Int32} {k : Nat}, k + r = n → vI s → pok s N n c k → vI (pst s N n c k r)
  | 0, _, _, _, I, _ => I
  | r + 1, s, k, hk, I, P => by
    show vI (pst (prg s (dgt N n c k) (dgt N n c ((k + 1) % n))) N n c (k + 1) r)
    have a1 := dgt_lt (N := N) (n := n) (c := c) (k := k) N1
    have a2 := dgt_lt (N := N) (n := n) (c := c) (k := (k + 1) % n) N1
    have l := Nat.mod_lt (k + 1) (show 0 < n by omega)
    have ne : k ≠ (k + 1) % n := by
      by_cases z : k + 1 < n
      · rw [Nat.mod_eq_of_lt z]
        omega
      · rw [show k + 1 = n by omega, Nat.mod_self]
        omega
    have b := I.2.2.2.2 (dgt N n c k) (dgt N n c ((k + 1) % n)) (by omega) (by omega)
    have p := P k (Nat.le_refl _) (by omega)
    refine I_ps N1 hN n2 e r (by omega) (I_rg I (by omega) (by omega) (dg_ne e (by omega) l ne) ?_) (pok_s N1 hN e (by omega) P)
    unfold pow at p
    have nz : (s (82 + 6 * dgt N n c k + dgt N n c ((k + 1) % n))).toInt ≠ 0 := fun z => by
      rw [show s (82 + 6 * dgt N n c k + dgt N n c ((k + 1) % n)) = 0 from Int32.toInt_inj.mp z] at p
      exact absurd p (by decide)
    omega
/-- settle -/
theorem c65_2 {n c : Nat} (N1 : 1 ≤ N) (hN : N ≤ 6) (n2 : 2 ≤ n) (hn : n ≤ 6) : ∀ (fu : Nat) {k : Nat} {s : Nat → Int32} {m : xS}, k ≤ n → n - k < fu → R32 s (m.1 10) → rgO m N (n, c) → ∃ c', D65_67_9_2 F fu (Int32.ofNat k) m = some ((), xr m 10 c') ∧ R32 (pst s N n c k (n - k)) c' := by
  intro fu
  induction fu with
  | zero => intro k s m _ lf; omega
  | succ fu ih =>
    intro k s m hk lf R O
    have ek := nJ (n := k) (by omega)
    have en := nJ (n := n) (by omega)
    have O1 : m.1 67 1 = Int32.ofNat n := O.1
    by_cases h : n ≤ k
    · rw [show n - k = 0 by omega]
      refine ⟨m.1 10, ?_, R⟩
      rw [xr_id]
      unfold D65_67_9_2
      rw [O1]
      exact oT (zc.trans (decide_eq_true (by omega))) rfl
    · have hkn : k < n := by omega
      have a1 := dgt_lt (N := N) (n := n) (c := c) (k := k) N1
      have a2 := dgt_lt (N := N) (n := n) (c := c) (k := (k + 1) % n) N1
      have l := Nat.mod_lt (k + 1) (show 0 < n by omega)
      have r1 : m.1 68 k = Int32.ofNat (dgt N n c k) := O.2 k hkn
      have ik : xib (Int32.ofNat k) 6 = true := gxb ek (by omega)
      rw [show n - k = (n - (k + 1)) + 1 by omega]
      show ∃ c', _ ∧ R32 (pst (prg s (dgt N n c k) (dgt N n c ((k + 1) % n))) N n c (k + 1) (n - (k + 1))) c'
      have R2 := R_uh (v := s (82 + 6 * dgt N n c k + dgt N n c ((k + 1) % n)) - 1) R (a := dgt N n c k) (d := dgt N n c ((k + 1) % n)) (by omega) (by omega)
      obtain ⟨c', d1, d2⟩ := ih (k := k + 1) (s := prg s (dgt N n c k) (dgt N n c ((k + 1) % n))) (m := xr m 10 (cup (m.1 10) (78 + 6 * dgt N n c k + dgt N n c ((k + 1) % n)) (s (82 + 6 * dgt N n c k + dgt N n c ((k + 1) % n)) - 1))) (by omega) (by omega) (by rw [xr_s]; exact R2) ⟨(congrFun (xr_o (by decide)) 1).trans O1, fun j hj => (congrFun (xr_o (by decide)) j).trans (O.2 j hj)⟩
      refine ⟨c', ?_, d2⟩
      rw [xr_xr] at d1
      have go : D65_67_9_43 F (D65_67_9_2 F fu) (Int32.ofNat k) (Int32.ofNat (dgt N n c ((k + 1) % n))) m = some ((), xr m 10 c') := by
        unfold D65_67_9_43
        rw [if_pos ik, if_pos ik, gxn ek, r1]
        refine ob (c94_9 R rfl rfl (by omega) (by omega)) (ob (a75_9 rfl rfl (by omega) (by omega)) ?_)
        rw [show Int32.ofNat k + Int32.ofInt 1 = Int32.ofNat (k + 1) from xadd (a := k) (b := 1) (by omega)]
        exact d1
      have nx1 : Int32.ofNat k + 1 = Int32.ofNat (k + 1) := xadd (a := k) (b := 1) (by omega)
      have ek1 := nJ (n := k + 1) (by omega)
      unfold D65_67_9_2
      rw [O1, nx1]
      refine oF (zc.trans (decide_eq_false (by omega))) (oF (zc.trans (decide_eq_false (by show ¬ (6 : Int) ≤ _; omega))) ?_)
      by_cases z : k + 1 < n
      · rw [Nat.mod_eq_of_lt z] at go
        refine oF (zc.trans (decide_eq_false (by omega))) (oT (gxb ek1 (by omega)) ?_)
        rw [gxn ek1, show m.1 68 (k + 1) = Int32.ofNat (dgt N n c (k + 1)) from O.2 (k + 1) z]
        exact go
      · rw [show (k + 1) % n = 0 by rw [show k + 1 = n by omega, Nat.mod_self]] at go
        refine oT (zc.trans (decide_eq_true (by omega))) ?_
        rw [show m.1 68 0 = Int32.ofNat (dgt N n c 0) from O.2 0 (by show 0 < n; omega)]
        exact go
theorem r242_26 {n c : Nat} (hF : 100 ≤ F) (N1 : 1 ≤ N) (hN : N ≤ 6) (n2 : 2 ≤ n) (hn : n ≤ 6) (hc : c < 2147483648) : ∀ (fu : Nat) {k : Nat} {m : xS}, k ≤ n → n - k < fu → m.1 80 0 = Int32.ofNat N → m.1 70 26 = Int32.ofNat c → D242_26 F fu (Int32.ofNat n) (Int32.ofNat k) m = some (Int32.ofNat n, xr m 80 (pst (m.1 80) N n c k (n - k))) := by
  intro fu
  induction fu with
  | zero => intro k m _ lf; omega
  | succ fu ih =>
    intro k m hk lf e0 e26
    have ek := nJ (n := k) (by omega)
    have en := nJ (n := n) (by omega)
    unfold D242_26
    by_cases h : n ≤ k
    · rw [show n - k = 0 by omega]
      show _ = some (Int32.ofNat n, xr m 80 (m.1 80))
      rw [xr_id]
      exact oT (zc.trans (decide_eq_true (by omega))) rfl
    · have hkn : k < n := by omega
      have a1 := dgt_lt (N := N) (n := n) (c := c) (k := k) N1
      have a2 := dgt_lt (N := N) (n := n) (c := c) (k := (k + 1) % n) N1
      have l := Nat.mod_lt (k + 1) (show 0 < n by omega)
      have nx1 : Int32.ofNat k + 1 = Int32.ofNat (k + 1) := xadd (a := k) (b := 1) (by omega)
      have i := ix6 (A := 82) (B := 82) (a := dgt N n c k) (d := dgt N n c ((k + 1) % n)) rfl (by decide) (by omega) (by omega)
      rw [show n - k = (n - (k + 1)) + 1 by omega]
      show _ = some (Int32.ofNat n, xr m 80 (pst (prg (m.1 80) (dgt N n c k) (dgt N n c ((k + 1) % n))) N n c (k + 1) (n - (k + 1))))
      refine oF (zc.trans (decide_eq_false (by omega))) (ob (r236 hF e26 rfl rfl e0 N1 hN hkn hn hc) ?_)
      dsimp only
      rw [if_pos (n0b (by omega) (by omega)), nx1, i32md (by omega) (by omega) (by omega)]
      refine ob (r236 hF e26 rfl rfl e0 N1 hN l hn hc) ?_
      dsimp only
      rw [gxn i, if_pos (gxb i (by omega)), if_pos (gxb i (by omega)), show Int32.ofNat k + Int32.ofInt 1 = Int32.ofNat (k + 1) from xadd (a := k) (b := 1) (by omega), xu_xr]
      have z := ih (k := k + 1) (m := xr m 80 (prg (m.1 80) (dgt N n c k) (dgt N n c ((k + 1) % n)))) (by omega) (by omega) (by rw [xr_s]; exact (cup_o (by omega)).trans e0) ((congrFun (xr_o (by decide)) 26).trans e26)
      rw [xr_s, xr_xr] at z
      exact z
theorem kRing (hF : 120000 ≤ F) (hT : xT m) (M : rMx m) : xP (D135_0 F m) (fun v1 m1 => ∀ m1', xrw m1 m1' → xT m1' → xP (D242 F m1') (fun v2 m2 => (true = true → v1 = v2) ∧ rMx m2)) := by
  have M0 := M
  obtain ⟨⟨R, I9⟩, ⟨nn, hh, ⟨n20, h20⟩, ⟨e1, e2, e3⟩, -⟩, -⟩ := M0
  have I := I9.1
  have n6 := I_n6 I
  have n0 := I_n0 I
  obtain ⟨N, eN⟩ : ∃ N : Nat, (m.1 80 0).toInt = (N : Int) := ⟨(m.1 80 0).toInt.toNat, by omega⟩
  have e0 : m.1 80 0 = Int32.ofNat N := i32n eN
  have hN : N ≤ 6 := by omega
  obtain ⟨m1, d1, w, q⟩ := c63 (F := F) (m := m) (by omega) I e0 hN R
  have M1 : rMx m1 := rMx_c (w 80 (by decide) (by decide)) (w 10 (by decide) (by decide)) ⟨by rw [w 14 (by decide) (by decide)], by rw [w 14 (by decide) (by decide)]⟩ (by rw [w 70 (by decide) (by decide)]) (w 81 (by decide) (by decide)) (fun a h1 h2 => w a (by omega) (by omega)) (fun a h1 h2 => w a (by omega) (by omega)) (w 41 (by decide) (by decide)) (w 42 (by decide) (by decide)) (w 85 (by decide) (by decide)) (w 86 (by decide) (by decide)) (w 87 (by decide) (by decide)) (by rw [w 70 (by decide) (by decide)]) (by rw [w 43 (by decide) (by decide)]) M
  have s80 : m1.1 80 = m.1 80 := w 80 (by decide) (by decide)
  have f1 : m1.1 14 1 = Int32.ofNat nn := by rw [w 14 (by decide) (by decide)]; exact e1
  have f2 : m1.1 14 2 = Int32.ofNat hh := by rw [w 14 (by decide) (by decide)]; exact e2
  have f3 : m1.1 70 25 = Int32.ofNat hh := by rw [w 70 (by decide) (by decide)]; exact e3
  unfold D135_0
  cases e : srg (m.1 80) N (N - 1) 2 with
  | none =>
    rw [e] at q
    have q : m1.1 67 1 = 0 := q
    refine ⟨(-1, m1), ob d1 (oF (znz q) rfl), fun m1' w' t1 => ?_⟩
    have k80 : m1'.1 80 = m.1 80 := (w'.1 80 0 148 (by decide)).trans s80
    unfold D242
    by_cases N0 : N = 0
    · exact ⟨(-1, m1'), ob r204 (oF (znF (by rw [k80]; exact decide_eq_false (by omega))) rfl), fun _ => rfl, rMx_w w' M1⟩
    · have z := r241 (F := F) (m := m1') hF (by rw [k80]; exact e0) (by omega) hN
      rw [k80, e] at z
      exact ⟨(-1, m1'), ob r204 (oT (znT (by rw [k80]; exact decide_eq_true (by omega))) (ob z (oF (znz rfl) rfl))), fun _ => rfl, rMx_w w' M1⟩
  | some qq =>
    rw [e] at q
    obtain ⟨n, c⟩ := qq
    obtain ⟨l1, l2, l3, l4⟩ := srg_i e
    have l1 : 2 ≤ n := l1
    have l2 : n < 2 + (N - 1) := l2
    have l3 : c < N ^ n := l3
    have l4 : rgc (m.1 80) N n c = true := l4
    have pb := p6b (N := N) (k := n) (by omega) (by omega)
    have N1 : 1 ≤ N := by omega
    have nd : nodp 0 (dg N n c) = true := by
      unfold rgc at l4
      rw [Bool.and_eq_true] at l4
      exact l4.1
    have kp : ∀ a, a ≠ 14 → a ≠ 16 + nn → (kpc m1 nn hh).1 a = m1.1 a := fun a h1 h2 => kpc_r h1 h2
    have q : rgO m1 N (n, c) := q
    have q2 : rgO (kpc m1 nn hh) N (n, c) := ⟨by rw [kp 67 (by decide) (by omega)]; exact q.1, fun j hj => by rw [kp 68 (by decide) (by omega)]; exact q.2 j hj⟩
    obtain ⟨c', k1, k2⟩ := c65_2 (F := F) (n := n) (c := c) N1 hN l1 (by omega) F (k := 0) (s := m.1 80) (m := kpc m1 nn hh) (by omega) (by omega) (by rw [kp 10 (by decide) (by omega), w 10 (by decide) (by decide)]; exact R) q2
    rw [Nat.sub_zero] at k2
    have I' := I_ps (s := m.1 80) N1 hN l1 nd n (k := 0) (by omega) I (pok_0 l4)
    have v67 : (xr (kpc m1 nn hh) 10 c').1 67 1 = Int32.ofNat n := (congrFun (xr_o (by decide)) 1).trans q2.1
    refine ⟨(_, _), ob d1 (oT (znn (by show m1.1 67 1 ≠ 0; rw [show m1.1 67 1 = Int32.ofNat n from q.1]; exact nI0 (by omega) (by omega))) (ob (c16_9 f1 f2 n20 h20) (ob (a := ()) (m := xr (kpc m1 nn hh) 10 c') ?_ rfl))), fun m1' w' t1 => ?_⟩
    · unfold D65_67_9
      exact k1
    · dsimp only at w' ⊢
      have k80 : m1'.1 80 = m.1 80 := (w'.1 80 0 148 (by decide)).trans ((xr_o (by decide)).trans ((kp 80 (by decide) (by omega)).trans s80))
      have k25 : m1'.1 70 25 = Int32.ofNat hh := (w'.2 70 11 25 (by decide)).trans ((congrFun (xr_o (by decide)) 25).trans ((congrFun (kp 70 (by decide) (by omega)) 25).trans f3))
      have z := r241 (F := F) (m := m1') hF (by rw [k80]; exact e0) N1 hN
      rw [k80, e] at z
      have z : D241 F m1' = some (Int32.ofNat n, xu m1' 70 26 (Int32.ofNat c)) := z
      have tx : xT (xu m1' 70 26 (Int32.ofNat c)) := xT_c t1 (i := 70) (j := 26) (lo := 0) (hi := 2147483647) rfl (by rw [xI (by omega)]; omega) (by rw [xI (by omega)]; omega)
      obtain ⟨⟨u, y⟩, hy, y1, y2⟩ := r220 (F := F) (m := xu m1' 70 26 (Int32.ofNat c)) (by omega) tx ((xu_o (by decide)).trans k25) h20
      have x80 : (xu m1' 70 26 (Int32.ofNat c)).1 80 = m.1 80 := (funext fun j => xu_o (fun z => absurd z.1 (by decide))).trans k80
      have y80' : y.1 80 = m.1 80 := (y80 y2.1).trans x80
      have y26 : y.1 70 26 = Int32.ofNat c := (y2.1.2 70 26 rfl).trans (xu_s _ _ _ _)
      have t := r242_26 (F := F) (n := n) (c := c) (by omega) N1 hN l1 (by omega) (by omega) F (k := 0) (m := y) (by omega) (by omega) (by rw [y80']; exact e0) y26
      rw [Nat.sub_zero, y80'] at t
      unfold D242
      refine ⟨(Int32.ofNat n, xr y 80 (pst (m.1 80) N n c 0 n)), ob r204 (oT (znT (by rw [k80]; exact decide_eq_true (by omega))) (ob z (oT (znn (nI0 (by omega) (by omega))) (ob hy t)))), fun _ => v67, ?_⟩
      have wv : xrv (xr (kpc m1 nn hh) 10 c') (xu m1' 70 26 (Int32.ofNat c)) := by
        refine ⟨fun i k n ht => ?_, fun i a b ht hn => (xu_o hn).trans (w'.2 i a b ht)⟩
        have ne : i ≠ 70 := fun z => by
          subst z
          exact absurd ht (by unfold xta; simp [show (yty 70).1 = 0 from rfl])
        exact (funext fun j => xu_o (fun z => ne z.1)).trans (w'.1 i k n ht)
      exact rMx_act M1 n20 h20 f1 f2 k2 ⟨I', by rw [pst_o N1 hN (Or.inl (by omega)) n]; exact I9.2⟩ (fun k h1 h2 => (pst_o N1 hN (Or.inr (by omega)) n).trans (by rw [s80])) wv y2.1 y2.2.1 y2.2.2
end PSET
