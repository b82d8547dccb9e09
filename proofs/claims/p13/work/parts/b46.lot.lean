/-! harvests: lots, trials, and the reference's run of them. -/
def lcg (x : Int) : Int := (x * 1103515245 + 12345) % 2147483648
theorem lcg_b (x : Int) : 0 ≤ lcg x ∧ lcg x < 2147483648 := by unfold lcg; omega
/-- a lot among k -/
def drw (x k : Int) : Int := lcg x / 65536 % k
theorem drw_b {x k : Int} (h : 0 < k) : 0 ≤ drw x k ∧ drw x k < k := ⟨Int.emod_nonneg _ (by omega), Int.emod_lt_of_pos _ h⟩
theorem b64 {a : Int} (h : -9223372036854775808 ≤ a ∧ a ≤ 9223372036854775807) : a.bmod (2 ^ 64) = a := Int.bmod_eq_of_le_mul_two (by omega) (by omega)
theorem b32 {a : Int} (h : -2147483648 ≤ a ∧ a ≤ 2147483647) : a.bmod (2 ^ 32) = a := Int.bmod_eq_of_le_mul_two (by omega) (by omega)
theorem lcg64 {X : Int64} (h : 0 ≤ X.toInt ∧ X.toInt < 2147483648) : (X * 1103515245 + 12345 - (X * 1103515245 + 12345) / 2147483648 * 2147483648).toInt = lcg X.toInt := by
  have l1 : (1103515245 : Int64).toInt = 1103515245 := rfl
  have l2 : (12345 : Int64).toInt = 12345 := rfl
  have l3 : (2147483648 : Int64).toInt = 2147483648 := rfl
  have e1 : (X * 1103515245 + 12345).toInt = X.toInt * 1103515245 + 12345 := by
    rw [Int64.toInt_add, Int64.toInt_mul, l1, l2, b64 (a := X.toInt * 1103515245) (by omega), b64 (by omega)]
  generalize X * 1103515245 + 12345 = Y at *
  have e2 : (Y / 2147483648).toInt = Y.toInt / 2147483648 := by
    rw [Int64.toInt_div, l3, Int.tdiv_eq_ediv_of_nonneg (by omega), b64 (by omega)]
  have e3 : (Y / 2147483648 * 2147483648).toInt = Y.toInt / 2147483648 * 2147483648 := by
    rw [Int64.toInt_mul, e2, l3, b64 (by omega)]
  rw [Int64.toInt_sub, e3, b64 (by omega), e1]
  unfold lcg
  omega
theorem ems {q k : Int} : q - q / k * k = q % k := by rw [Int.emod_def, Int.mul_comm]
theorem drw64 {Y : Int64} {k : Int32} (h : 0 ≤ Y.toInt ∧ Y.toInt < 2147483648) (hk : 1 ≤ k.toInt ∧ k.toInt ≤ 100) : (Y / 65536 - Y / 65536 / k.toInt64 * k.toInt64).toInt32.toInt = Y.toInt / 65536 % k.toInt := by
  have l1 : (65536 : Int64).toInt = 65536 := rfl
  have e1 : (Y / 65536).toInt = Y.toInt / 65536 := by
    rw [Int64.toInt_div, l1, Int.tdiv_eq_ediv_of_nonneg (by omega), b64 (by omega)]
  generalize Y / 65536 = Z at *
  have ek : k.toInt64.toInt = k.toInt := Int32.toInt_toInt64 _
  have z0 : 0 ≤ Z.toInt ∧ Z.toInt < 32768 := by omega
  have d0 : 0 ≤ Z.toInt / k.toInt := Int.ediv_nonneg z0.1 (by omega)
  have d1 : Z.toInt / k.toInt ≤ Z.toInt := Int.ediv_le_self _ z0.1
  have d2 : Z.toInt / k.toInt * k.toInt ≤ Z.toInt := Int.ediv_mul_le _ (by omega)
  have d3 : 0 ≤ Z.toInt / k.toInt * k.toInt := Int.mul_nonneg d0 (by omega)
  have e2 : (Z / k.toInt64).toInt = Z.toInt / k.toInt := by
    rw [Int64.toInt_div, ek, Int.tdiv_eq_ediv_of_nonneg z0.1, b64 (by omega)]
  have e3 : (Z / k.toInt64 * k.toInt64).toInt = Z.toInt / k.toInt * k.toInt := by
    rw [Int64.toInt_mul, e2, ek, b64 (by omega)]
  have e4 : (Z - Z / k.toInt64 * k.toInt64).toInt = Z.toInt / 65536 * 0 + Z.toInt % k.toInt := by
    rw [Int64.toInt_sub, e3, b64 (by omega), ems]
    omega
  have m0 := Int.emod_nonneg Z.toInt (show k.toInt ≠ 0 by omega)
  have m1 := Int.emod_lt_of_pos Z.toInt (show 0 < k.toInt by omega)
  rw [Int64.toInt_toInt32, e4, b32 (by omega), ← e1]
  omega
/-- one lot for a tool -/
def lst (s : Nat → Int32) (t : Nat) (d : Int) : Nat → Int32 := if d = (s 0).toInt then pgv s t (s (10 + 6 * t)) else if pcl s t d.toNat = true then pld s t d.toNat else s
def lct (s : Nat → Int32) (t : Nat) (d : Int) (v : Int32) : Int32 := if d = (s 0).toInt then v else if pcl s t d.toNat = true then v + 1 else v
def lots : Nat → Nat → (Nat → Int32) → Int → Int32 → (Nat → Int32) × Int × Int32
  | _, 0, s, x, v => (s, x, v)
  | t, n + 1, s, x, v => lots (t + 1) n (lst s t (drw x ((s 0).toInt + 1))) (lcg x) (lct s t (drw x ((s 0).toInt + 1)) v)
/-- days of a trial: the village, the seed, what is paid, what is lent -/
def hdy : Nat → (Nat → Int32) → Int → Int32 → Int32 → (Nat → Int32) × Int × Int32 × Int32
  | 0, s, x, p, l => (s, x, p, l)
  | n + 1, s, x, p, l => hdy n (pdy (fwk 0 (s 3).toInt.toNat (lots 0 (s 2).toInt.toNat s x 0).1)) (lots 0 (s 2).toInt.toNat s x 0).2.1 (p + (fwk 0 (s 3).toInt.toNat (lots 0 (s 2).toInt.toNat s x 0).1 5 - (lots 0 (s 2).toInt.toNat s x 0).1 5)) (l + (lots 0 (s 2).toInt.toNat s x 0).2.2)
def htr : Nat → Nat → (Nat → Int32) → Int → Int32 → Int32 → Int32 × Int32
  | 0, _, _, _, p, l => (p, l)
  | n + 1, d, s, x, p, l => htr n d s (hdy d s x p l).2.1 (hdy d s x p l).2.2.1 (hdy d s x p l).2.2.2
section PLOT
variable {s : Nat → Int32}
theorem lst_k (I : vI s) {t j : Nat} {d : Int} (hj : j < 10) : lst s t d j = s j := by
  unfold lst
  split
  · exact pgv_o (by omega)
  · split
    · rw [pld_o (by omega) (by omega), pth_o (by omega)]
    · rfl
theorem lst_h (I : vI s) {t j : Nat} {d : Int} (ht : (t : Int) < (s 2).toInt) (hd : 0 ≤ d ∧ d < (s 0).toInt + 1) (hj : 124 ≤ j) : lst s t d j = s j := by
  have n6 := I_n6 I
  have n2 := I_nt I
  have h := (I.2.1 t ht).2.1
  unfold lst
  split
  · exact pgv_o (by omega)
  · split
    · rw [pld_o (by omega) (by omega), pth_o (by omega)]
    · rfl
theorem lst_I (I : vI s) {t : Nat} {d : Int} (ht : (t : Int) < (s 2).toInt) (hd : 0 ≤ d ∧ d < (s 0).toInt + 1) : vI (lst s t d) := by
  unfold lst
  split
  · have h := (I.2.1 t ht).1
    exact I_gv I ht h.1 h.2
  · split
    · exact I_ld I ht (by omega) (by assumption)
    · exact I
theorem lots_p : ∀ (n : Nat) {s : Nat → Int32} {t : Nat} {x : Int} {v : Int32}, vI s → ((t + n : Nat) : Int) ≤ (s 2).toInt → 0 ≤ x ∧ x < 2147483648 → (∀ j, j < 10 → (lots t n s x v).1 j = s j) ∧ (∀ j, 124 ≤ j → (lots t n s x v).1 j = s j) ∧ vI (lots t n s x v).1 ∧ 0 ≤ (lots t n s x v).2.1 ∧ (lots t n s x v).2.1 < 2147483648
  | 0, _, _, _, _, I, _, hx => ⟨fun _ _ => rfl, fun _ _ => rfl, I, hx⟩
  | n + 1, s, t, x, v, I, ht, _ => by
    have n0 := I_n0 I
    have hd := drw_b (x := x) (k := (s 0).toInt + 1) (by omega)
    have e2 : lst s t (drw x ((s 0).toInt + 1)) 2 = s 2 := lst_k I (by decide)
    obtain ⟨a, b, c⟩ := lots_p n (s := lst s t (drw x ((s 0).toInt + 1))) (t := t + 1) (x := lcg x) (v := lct s t (drw x ((s 0).toInt + 1)) v) (lst_I I (by omega) hd) (by rw [e2]; omega) (lcg_b x)
    exact ⟨fun j hj => (a j hj).trans (lst_k I hj), fun j hj => (b j hj).trans (lst_h I (by omega) hd hj), c⟩
end PLOT
section PHRR
variable {s : Nat → Int32} {m : xS} {F : Nat}
/-- all but the row and the seed of trials -/
def kh (m m' : xS) : Prop := (∀ i, i ≠ 80 → m'.1 i = m.1 i) ∧ ∀ i j, i ≠ 70 → m'.2 i j = m.2 i j
theorem kh_r (m : xS) : kh m m := ⟨fun _ _ => rfl, fun _ _ _ => rfl⟩
theorem kh_t {a b c : xS} (h1 : kh a b) (h2 : kh b c) : kh a c := ⟨fun i h => (h2.1 i h).trans (h1.1 i h), fun i j h => (h2.2 i j h).trans (h1.2 i j h)⟩
theorem kh_x {a : xS} {c : Nat → Int32} : kh a (xr a 80 c) := ⟨fun _ h => xr_o h, fun _ _ _ => rfl⟩
theorem r274 {k : Int32} (hk : 1 ≤ k.toInt ∧ k.toInt ≤ 100) (hx : 0 ≤ (m.2 70 35).toInt ∧ (m.2 70 35).toInt < 2147483648) : ∃ v Y, D274 F k m = some (v, xul m 70 35 Y) ∧ v.toInt = drw (m.2 70 35).toInt k.toInt ∧ Y.toInt = lcg (m.2 70 35).toInt := by
  have e := lcg64 hx
  have hb := lcg_b (m.2 70 35).toInt
  unfold D274
  refine ⟨_, _, if_pos ?_, (drw64 (by rw [e]; exact hb) hk).trans (by rw [e]; rfl), e⟩
  have ne : ¬ k.toInt64 = 0 := fun z => by
    have z := congrArg Int64.toInt z
    rw [Int32.toInt_toInt64] at z
    have l : (0 : Int64).toInt = 0 := rfl
    omega
  rw [beq_eq_false_iff_ne.mpr ne]
  rfl
theorem xul_s (m : xS) (i j : Nat) (v : Int64) : (xul m i j v).2 i j = v := if_pos ⟨rfl, rfl⟩
theorem r275_4 : ∀ (f : Nat) {s : Nat → Int32} {m : xS} {t : Nat} {v : Int32}, m.1 80 = s → vI s → 0 < (s 0).toInt → 0 ≤ (m.2 70 35).toInt ∧ (m.2 70 35).toInt < 2147483648 → (t : Int) ≤ (s 2).toInt → 7 - t < f → ∃ m', D275_4 F f v (Int32.ofNat t) m = some ((lots t ((s 2).toInt.toNat - t) s (m.2 70 35).toInt v).2.2, m') ∧ m'.1 80 = (lots t ((s 2).toInt.toNat - t) s (m.2 70 35).toInt v).1 ∧ (m'.2 70 35).toInt = (lots t ((s 2).toInt.toNat - t) s (m.2 70 35).toInt v).2.1 ∧ kh m m' := by
  intro f
  induction f with
  | zero => intro s m t v _ _ _ _ _ l; omega
  | succ f ih =>
    intro s m t v es I s0 hx ht l
    have n6 := I_n6 I
    have n2 := I_nt I
    have et := nJ (n := t) (by omega)
    unfold D275_4
    rw [es]
    by_cases q : (s 2).toInt ≤ (t : Int)
    · rw [show (s 2).toInt.toNat - t = 0 by omega]
      exact ⟨m, oT (zc.trans (decide_eq_true (by omega))) rfl, es, rfl, kh_r m⟩
    · rw [show (s 2).toInt.toNat - t = ((s 2).toInt.toNat - (t + 1)) + 1 by omega]
      have g : zcmp .ge (Int32.ofNat t) (s 2) = false := zc.trans (decide_eq_false (by omega))
      have ek : (s 0 + 1).toInt = (s 0).toInt + 1 := xa1 (by show _ ≤ _ + (1 : Int); omega) (by show _ + (1 : Int) ≤ _; omega)
      obtain ⟨d, Y, z1, z2, z3⟩ := r274 (F := F) (m := m) (k := s 0 + 1) (by omega) hx
      rw [ek] at z2
      have hd := drw_b (x := (m.2 70 35).toInt) (k := (s 0).toInt + 1) (by omega)
      rw [← z2] at hd
      obtain ⟨k, hk⟩ : ∃ k : Nat, d.toInt = (k : Int) := ⟨d.toInt.toNat, by omega⟩
      have ed : d = Int32.ofNat k := ofn_i hk (by omega)
      have J : vI (lst s t d.toInt) := lst_I I (by omega) hd
      have e2 : lst s t d.toInt 2 = s 2 := lst_k I (by decide)
      have e0 : lst s t d.toInt 0 = s 0 := lst_k I (by decide)
      have k1 : kh m (xul m 70 35 Y) := ⟨fun _ _ => rfl, fun i j h => if_neg (fun z => h z.1)⟩
      show ∃ m' : xS, _ = some ((lots (t + 1) _ (lst s t (drw _ _)) (lcg _) (lct s t (drw _ _) v)).2.2, m') ∧ m'.1 80 = (lots (t + 1) _ (lst s t (drw _ _)) (lcg _) (lct s t (drw _ _) v)).1 ∧ (m'.2 70 35).toInt = (lots (t + 1) _ (lst s t (drw _ _)) (lcg _) (lct s t (drw _ _) v)).2.1 ∧ _
      rw [← z2, ← z3]
      have nx : ∀ {m2 : xS}, m2.1 80 = lst s t d.toInt → m2.2 70 35 = Y → kh m m2 → ∃ m', D275_63 F (D275_4 F f) (lct s t d.toInt v) (Int32.ofNat t) d m2 = some ((lots (t + 1) ((s 2).toInt.toNat - (t + 1)) (lst s t d.toInt) Y.toInt (lct s t d.toInt v)).2.2, m') ∧ m'.1 80 = (lots (t + 1) ((s 2).toInt.toNat - (t + 1)) (lst s t d.toInt) Y.toInt (lct s t d.toInt v)).1 ∧ (m'.2 70 35).toInt = (lots (t + 1) ((s 2).toInt.toNat - (t + 1)) (lst s t d.toInt) Y.toInt (lct s t d.toInt v)).2.1 ∧ kh m m' := fun {m2} h1 h2 h3 => by
        obtain ⟨m', d1, d2, d3, d4⟩ := ih (s := lst s t d.toInt) (m := m2) (t := t + 1) (v := lct s t d.toInt v) h1 J (by rw [e0]; exact s0) (by rw [h2, z3]; exact lcg_b _) (by rw [e2]; omega) (by omega)
        rw [e2, h2] at d1 d2 d3
        refine ⟨m', ?_, d2, d3, kh_t h3 d4⟩
        unfold D275_63
        rw [(o1 (n := t) (by omega)).2.2]
        exact d1
      have es1 : (xul m 70 35 Y).1 80 = s := es
      have eX : (xul m 70 35 Y).2 70 35 = Y := xul_s m 70 35 Y
      by_cases c : d.toInt = (s 0).toInt
      · have c1 : zcmp .ne d (s 0) = false := (zcni (y := (s 0).toInt) rfl).trans (by rw [decide_eq_true c]; rfl)
        have r := r224 (F := F) (m := xul m 70 35 Y) (t := t) rfl (by omega)
        rw [es1] at r
        have el : lst s t d.toInt = pgv s t (s (10 + 6 * t)) := by unfold lst; rw [if_pos c]
        have ec : lct s t d.toInt v = v := by unfold lct; rw [if_pos c]
        obtain ⟨m', d1, d2, d3, d4⟩ := nx (m2 := xr (xul m 70 35 Y) 80 (pgv s t (s (10 + 6 * t)))) (by rw [xr_s, el]) eX (kh_t k1 kh_x)
        refine ⟨m', oF g (ob z1 (oF (by rw [es1]; exact c1) (ob r ?_))), d2, d3, d4⟩
        rw [ec] at d1 ⊢
        exact d1
      · have c1 : zcmp .ne d (s 0) = true := (zcni (y := (s 0).toInt) rfl).trans (by rw [decide_eq_false c]; rfl)
        have r := r222 (F := F) (m := xul m 70 35 Y) (by rw [es1]; exact I) (t := t) (h := k) rfl ed (by rw [es1]; omega) (by omega)
        rw [es1] at r
        by_cases p : pcl s t k = true
        · have el : lst s t d.toInt = pld s t k := by unfold lst; rw [if_neg c, hk, Int.toNat_natCast, if_pos p]
          have ec : lct s t d.toInt v = v + 1 := by unfold lct; rw [if_neg c, hk, Int.toNat_natCast, if_pos p]
          have r3 := r223 (F := F) (m := xul m 70 35 Y) (by rw [es1]; exact I) (t := t) (h := k) rfl ed (by rw [es1]; omega) (by omega)
          rw [es1] at r3
          obtain ⟨m', d1, d2, d3, d4⟩ := nx (m2 := xr (xul m 70 35 Y) 80 (pld s t k)) (by rw [xr_s, el]) eX (kh_t k1 kh_x)
          refine ⟨m', oF g (ob z1 (oT (by rw [es1]; exact c1) (ob r (oF (zeF p) (ob r3 ?_))))), d2, d3, d4⟩
          rw [ec] at d1 ⊢
          exact d1
        · have p : pcl s t k = false := by simpa using p
          have el : lst s t d.toInt = s := by unfold lst; rw [if_neg c, hk, Int.toNat_natCast, if_neg (by rw [p]; decide)]
          have ec : lct s t d.toInt v = v := by unfold lct; rw [if_neg c, hk, Int.toNat_natCast, if_neg (by rw [p]; decide)]
          obtain ⟨m', d1, d2, d3, d4⟩ := nx (m2 := xul m 70 35 Y) (by rw [el]; exact es) eX k1
          refine ⟨m', oF g (ob z1 (oT (by rw [es1]; exact c1) (ob r (oT (zeT p) ?_)))), d2, d3, d4⟩
          rw [ec] at d1 ⊢
          exact d1
/-- what the days of a trial keep -/
def hx (x : Int) : Prop := 0 ≤ x ∧ x < 2147483648
theorem r276_74 (hF : 500 ≤ F) {g65 : Int32 → Int32 → Int32 → Int32 → Int32 → Int32 → xS → Option (Int32 × xS)} {v1 v2 v3 v6 : Int32} {n : Nat} (h2 : v2 = Int32.ofNat n) (n60 : n ≤ 60) {s0 c : Nat → Int32} (hc : ∀ j, j < 124 → c j = s0 j) : ∀ (f : Nat) {s : Nat → Int32} {m : xS} {i : Nat} {p l : Int32}, m.1 80 = s → m.1 84 = c → vI s → 0 < (s 0).toInt → hx (m.2 70 35).toInt → (s 4).toInt + ((n - i : Nat) : Int) < 2000 → (∀ j, 124 ≤ j → s j = s0 j) → i ≤ n → n - i < f → ∃ m', D276_74 F g65 f v1 v2 v3 p l v6 (Int32.ofNat i) m = g65 v1 v2 v3 (hdy (n - i) s (m.2 70 35).toInt p l).2.2.1 (hdy (n - i) s (m.2 70 35).toInt p l).2.2.2 (v6 + Int32.ofInt 1) m' ∧ m'.1 80 = s0 ∧ (m'.2 70 35).toInt = (hdy (n - i) s (m.2 70 35).toInt p l).2.1 ∧ hx (m'.2 70 35).toInt ∧ kh m m' := by
  subst h2
  have en := nJ (n := n) (by omega)
  intro f
  induction f with
  | zero => intro s m i p l _ _ _ _ _ _ _ _ q; omega
  | succ f ih =>
    intro s m i p l es e84 I s0' hX hd hs hi q
    have ei := nJ (n := i) (by omega)
    unfold D276_74
    by_cases e : n ≤ i
    · rw [show n - i = 0 by omega]
      have r := r260 (F := F) (m := m) (s := s0) hF (fun j hj => by rw [e84]; exact hc j hj) (fun j hj => by rw [es]; exact hs j hj)
      exact ⟨xr m 80 s0, oT (zc.trans (decide_eq_true (by omega))) (ob r rfl), xr_s _ _ _, rfl, hX, kh_x⟩
    · rw [show n - i = (n - (i + 1)) + 1 by omega]
      have n2 := I_nt I
      have n3 := I_nw I
      have g : zcmp .ge (Int32.ofNat i) (Int32.ofNat n) = false := zc.trans (decide_eq_false (by omega))
      obtain ⟨m1, z1, z2, z3, z4⟩ := r275_4 (F := F) F (s := s) (m := m) (t := 0) (v := 0) es I s0' hX (by omega) (by omega)
      have z1 : D275 F m = some (_, m1) := z1
      rw [Nat.sub_zero] at z1 z2 z3
      obtain ⟨a, b, J, x0, x1⟩ := lots_p (s 2).toInt.toNat (s := s) (t := 0) (x := (m.2 70 35).toInt) (v := 0) I (by omega) hX
      have r6 := r246 (F := F) (m := m1) hF (by rw [z2]; exact J)
      rw [z2, a 3 (by decide)] at r6
      have K := fwk_I (s 3).toInt.toNat (w := 0) J (by rw [a 3 (by decide)]; omega)
      have r3 := r233 (F := F) (m := xr m1 80 (fwk 0 (s 3).toInt.toNat (lots 0 (s 2).toInt.toNat s (m.2 70 35).toInt 0).1)) hF (by rw [xr_s]; exact K)
      rw [xr_s, xr_xr] at r3
      have e4 : (pdy (fwk 0 (s 3).toInt.toNat (lots 0 (s 2).toInt.toNat s (m.2 70 35).toInt 0).1) 4).toInt = (s 4).toInt + 1 := by
        have d := I_day I
        rw [pdy_4, fwk_k _ (by decide), a 4 (by decide)]
        exact xa1 (by show _ ≤ _ + (1 : Int); omega) (by show _ + (1 : Int) ≤ _; omega)
      have k3 : kh m (xr m1 80 (pdy (fwk 0 (s 3).toInt.toNat (lots 0 (s 2).toInt.toNat s (m.2 70 35).toInt 0).1))) := kh_t z4 kh_x
      obtain ⟨m', d1, d2, d3, d4, d5⟩ := ih (s := pdy (fwk 0 (s 3).toInt.toNat (lots 0 (s 2).toInt.toNat s (m.2 70 35).toInt 0).1)) (m := xr m1 80 (pdy (fwk 0 (s 3).toInt.toNat (lots 0 (s 2).toInt.toNat s (m.2 70 35).toInt 0).1))) (i := i + 1) (p := p + (fwk 0 (s 3).toInt.toNat (lots 0 (s 2).toInt.toNat s (m.2 70 35).toInt 0).1 5 - (lots 0 (s 2).toInt.toNat s (m.2 70 35).toInt 0).1 5)) (l := l + (lots 0 (s 2).toInt.toNat s (m.2 70 35).toInt 0).2.2) (xr_s _ _ _) ((k3.1 84 (by decide)).trans e84) (I_dy K (by rw [fwk_k _ (by decide), a 4 (by decide)]; omega)) (by rw [pdy_o K (fun i _ => by omega) (by decide), fwk_k _ (by decide), a 0 (by decide)]; exact s0') (by show hx (m1.2 70 35).toInt; rw [z3]; exact ⟨x0, x1⟩) (by rw [e4]; omega) (fun j hj => by rw [pdy_o K (fun i _ => by omega) (by omega), fwk_h _ (by omega) hj, b j hj]; exact hs j hj) (by omega) (by omega)
      have ex : ((xr m1 80 (pdy (fwk 0 (s 3).toInt.toNat (lots 0 (s 2).toInt.toNat s (m.2 70 35).toInt 0).1))).2 70 35).toInt = (lots 0 (s 2).toInt.toNat s (m.2 70 35).toInt 0).2.1 := z3
      rw [ex] at d1 d3
      refine ⟨m', oF g (ob z1 (ob r6 (ob r3 ?_))), d2, d3, d4, kh_t k3 d5⟩
      rw [(o1 (n := i) (by omega)).2.2]
      exact d1
theorem r276_65 (hF : 500 ≤ F) {v1 v2 v3 : Int32} {n d : Nat} (h1 : v1 = Int32.ofNat n) (n10 : n ≤ 10) (h2 : v2 = Int32.ofNat d) (d60 : d ≤ 60) {s c : Nat → Int32} (I : vI9 s) (s0 : 0 < (s 0).toInt) (hc : ∀ j, j < 124 → c j = s j) : ∀ (f : Nat) {m : xS} {i : Nat} {p l : Int32}, m.1 80 = s → m.1 84 = c → hx (m.2 70 35).toInt → i ≤ n → n - i < f → ∃ m', D276_65 F f v1 v2 v3 p l (Int32.ofNat i) m = some (if zcmp .ne v3 0 = true then (htr (n - i) d s (m.2 70 35).toInt p l).2 else (htr (n - i) d s (m.2 70 35).toInt p l).1, m') ∧ m'.1 80 = s ∧ kh m m' := by
  have en := nJ (n := n) (by omega)
  subst h1
  intro f
  induction f with
  | zero => intro m i p l _ _ _ _ q; omega
  | succ f ih =>
    intro m i p l es e84 hX hi q
    have ei := nJ (n := i) (by omega)
    have d0 := I_day I.1
    have d9 := I.2
    unfold D276_65
    by_cases e : n ≤ i
    · rw [show n - i = 0 by omega]
      refine ⟨m, oT (zc.trans (decide_eq_true (by omega))) ?_, es, kh_r m⟩
      by_cases c : zcmp .ne v3 0 = true
      · rw [if_pos c, if_pos c]; rfl
      · rw [if_neg c, if_neg c]; rfl
    · rw [show n - i = (n - (i + 1)) + 1 by omega]
      have g : zcmp .ge (Int32.ofNat i) (Int32.ofNat n) = false := zc.trans (decide_eq_false (by omega))
      obtain ⟨m1, z1, z2, z3, z4, z5⟩ := r276_74 (F := F) hF (g65 := D276_65 F f) (v1 := Int32.ofNat n) (v3 := v3) (v6 := Int32.ofNat i) h2 d60 hc F (s := s) (m := m) (i := 0) (p := p) (l := l) es e84 I.1 s0 hX (by omega) (fun _ _ => rfl) (by omega) (by omega)
      rw [Nat.sub_zero] at z1 z3
      obtain ⟨m', w1, w2, w3⟩ := ih (m := m1) (i := i + 1) (p := (hdy d s (m.2 70 35).toInt p l).2.2.1) (l := (hdy d s (m.2 70 35).toInt p l).2.2.2) z2 ((z5.1 84 (by decide)).trans e84) z4 (by omega) (by omega)
      rw [z3] at w1
      refine ⟨m', oF g (z1.trans ?_), w2, kh_t z5 w3⟩
      rw [(o1 (n := i) (by omega)).2.2]
      exact w1
/-- when trials are made -/
def pHv (s : Nat → Int32) (y1 y2 y3 : Int32) : Prop := 0 < (s 0).toInt ∧ (1 ≤ y1.toInt ∧ y1.toInt ≤ 10) ∧ (1 ≤ y2.toInt ∧ y2.toInt ≤ 60) ∧ 0 ≤ y3.toInt ∧ y3.toInt ≤ 1
theorem r276n {y1 y2 y3 : Int32} (n : ¬ pHv (m.1 80) y1 y2 y3) : D276 F y1 y2 y3 m = some (-1, m) := by
  unfold D276
  by_cases a : 0 < (m.1 80 0).toInt
  · refine ob r204 (oF (zeF (decide_eq_true a)) (ob (r158 (x := 1) (y := 10) rfl rfl) ?_))
    by_cases b : 1 ≤ y1.toInt ∧ y1.toInt ≤ 10
    · refine oF (zeF (by rw [decide_eq_true b.1, decide_eq_true b.2]; rfl)) (ob (r158 (x := 1) (y := 60) rfl rfl) ?_)
      by_cases c : 1 ≤ y2.toInt ∧ y2.toInt ≤ 60
      · refine oF (zeF (by rw [decide_eq_true c.1, decide_eq_true c.2]; rfl)) (ob (r158 (x := 0) (y := 1) rfl rfl) (oF (znF ?_) rfl))
        rw [← Bool.not_eq_true, Bool.and_eq_true, decide_eq_true_eq, decide_eq_true_eq]
        exact fun z => n ⟨a, b, c, z⟩
      · refine oT (zeT ?_) rfl
        rw [← Bool.not_eq_true, Bool.and_eq_true, decide_eq_true_eq, decide_eq_true_eq]
        exact c
    · refine oT (zeT ?_) rfl
      rw [← Bool.not_eq_true, Bool.and_eq_true, decide_eq_true_eq, decide_eq_true_eq]
      exact b
  · exact ob r204 (oT (zeT (decide_eq_false a)) rfl)
theorem r276p (hF : 500 ≤ F) {y1 y2 y3 : Int32} (I : vI9 (m.1 80)) (h0 : 0 ≤ (m.1 70 23).toInt) (p : pHv (m.1 80) y1 y2 y3) : ∃ m', D276 F y1 y2 y3 m = some (if zcmp .ne y3 0 = true then (htr y1.toInt.toNat y2.toInt.toNat (m.1 80) (m.1 70 23).toInt 0 0).2 else (htr y1.toInt.toNat y2.toInt.toNat (m.1 80) (m.1 70 23).toInt 0 0).1, m') ∧ kow m m' := by
  obtain ⟨a, b, c, d⟩ := p
  have b1 := y32 (m.1 70 23)
  have eX : ((m.1 70 23).toInt64).toInt = (m.1 70 23).toInt := Int32.toInt_toInt64 _
  obtain ⟨c84, h259, hc⟩ := r259 (F := F) (m := xul m 70 35 (m.1 70 23).toInt64) hF
  obtain ⟨m', w1, w2, w3⟩ := r276_65 (F := F) hF (v1 := y1) (v2 := y2) (v3 := y3) (n := y1.toInt.toNat) (d := y2.toInt.toNat) (ofn_i (by omega) (by omega)) (by omega) (ofn_i (by omega) (by omega)) (by omega) (s := m.1 80) (c := c84) I a hc F (m := xr (xul m 70 35 (m.1 70 23).toInt64) 84 c84) (i := 0) (p := 0) (l := 0) (xr_o (by decide)) (xr_s _ _ _) (by
    show hx ((xul m 70 35 (m.1 70 23).toInt64).2 70 35).toInt
    rw [xul_s m 70 35, eX]
    exact ⟨h0, by omega⟩) (by omega) (by omega)
  have e3 : (xr (xul m 70 35 (m.1 70 23).toInt64) 84 c84).2 70 35 = (m.1 70 23).toInt64 := xul_s m 70 35 _
  rw [e3, eX, Nat.sub_zero] at w1
  refine ⟨m', ?_, fun i j e1 e2 e3 e4 => ?_, fun i j e1 e2 e3 => ?_⟩
  · unfold D276
    exact ob r204 (oF (zeF (decide_eq_true a)) (ob (r158 (x := 1) (y := 10) rfl rfl) (oF (zeF (by rw [decide_eq_true b.1, decide_eq_true b.2]; rfl)) (ob (r158 (x := 1) (y := 60) rfl rfl) (oF (zeF (by rw [decide_eq_true c.1, decide_eq_true c.2]; rfl)) (ob (r158 (x := 0) (y := 1) rfl rfl) (oT (znT (by rw [decide_eq_true d.1, decide_eq_true d.2]; rfl)) (ob h259 w1))))))))
  · by_cases z : i = 80
    · subst z
      rw [w2]
    · rw [w3.1 i z, xr_o e3]
      rfl
  · rw [w3.2 i j e1]
    exact if_neg (fun z => e1 z.1)
end PHRR
