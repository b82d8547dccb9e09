/-! How often a tool has been lent on: bounds by the calls so far, in the class's rows. -/
def lbR (b : Nat) (c : Nat → Int32) : Prop := ∀ t : Nat, t < 6 → (t : Int) < (c 2).toInt → (0 ≤ (c (30 + t)).toInt ∧ (c (30 + t)).toInt ≤ (b : Int)) ∧ (c (24 + t) ≠ c (6 + t) → 1 ≤ (c (30 + t)).toInt)
def lbS (b : Nat) (s : Nat → Int32) : Prop := ∀ t : Nat, t < 6 → (t : Int) < (s 2).toInt → (0 ≤ (s (10 + 6 * t + 4)).toInt ∧ (s (10 + 6 * t + 4)).toInt ≤ (b : Int)) ∧ (s (10 + 6 * t + 3) ≠ s (10 + 6 * t) → 1 ≤ (s (10 + 6 * t + 4)).toInt)
def LB (b : Nat) (m : xS) : Prop := lbR b (m.1 10) ∧ (∀ a, 16 ≤ a → a < 36 → lbR b (m.1 a)) ∧ ∀ a, 37 ≤ a → a < 41 → lbR b (m.1 a)
abbrev lbM : yM := [(10, 10, 1000), (16, 35, 1000), (37, 40, 1000)]
section PLB
variable {b b' : Nat} {s s' c c' : Nat → Int32} {m m' : xS}
theorem R_lb (R : R32 s c) {t : Nat} (ht : t < 6) : c (6 + t) = s (10 + 6 * t) ∧ (c (24 + t) = s (10 + 6 * t + 3) ∧ (c (30 + t) = s (10 + 6 * t + 4) ∧ c 2 = s 2)) := ⟨R_t R (w := 0) ht (by decide), R_t R (w := 3) ht (by decide), R_t R (w := 4) ht (by decide), R_j R (by decide)⟩
theorem lb_RS (R : R32 s c) (h : lbR b c) : lbS b s := fun t t6 ht => by
  obtain ⟨e1, e2, e3, e4⟩ := R_lb R t6
  rw [← e1, ← e2, ← e3]
  exact h t t6 (by rw [e4]; exact ht)
theorem lb_SR (R : R32 s c) (h : lbS b s) : lbR b c := fun t t6 ht => by
  obtain ⟨e1, e2, e3, e4⟩ := R_lb R t6
  rw [e1, e2, e3]
  exact h t t6 (by rw [← e4]; exact ht)
theorem lbR_c (e : ∀ j, j < 114 → c' j = c j) (h : lbR b c) : lbR b c' := fun t t6 ht => by
  rw [e 2 (by decide)] at ht
  rw [e (30 + t) (by omega), e (24 + t) (by omega), e (6 + t) (by omega)]
  exact h t t6 ht
theorem lbS_c (e2 : s' 2 = s 2) (e : ∀ t : Nat, t < 6 → s' (10 + 6 * t) = s (10 + 6 * t) ∧ s' (10 + 6 * t + 3) = s (10 + 6 * t + 3) ∧ s' (10 + 6 * t + 4) = s (10 + 6 * t + 4)) (h : lbS b s) : lbS b s' := fun t t6 ht => by
  obtain ⟨e3, e4, e5⟩ := e t t6
  rw [e2] at ht
  rw [e3, e4, e5]
  exact h t t6 ht
theorem lbR_m (l : b ≤ b') (h : lbR b c) : lbR b' c := fun t t6 ht => by
  have z := h t t6 ht
  exact ⟨by omega, z.2⟩
theorem lbS_m (l : b ≤ b') (h : lbS b s) : lbS b' s := fun t t6 ht => by
  have z := h t t6 ht
  exact ⟨by omega, z.2⟩
theorem LB_m (l : b ≤ b') (h : LB b m) : LB b' m := ⟨lbR_m l h.1, fun a h1 h2 => lbR_m l (h.2.1 a h1 h2), fun a h1 h2 => lbR_m l (h.2.2 a h1 h2)⟩
theorem LB_c (h10 : m'.1 10 = m.1 10) (hr : ∀ a, 16 ≤ a → a < 36 → m'.1 a = m.1 a) (hi : ∀ a, 37 ≤ a → a < 41 → m'.1 a = m.1 a) (h : LB b m) : LB b m' := ⟨by rw [h10]; exact h.1, fun a h1 h2 => by rw [hr a h1 h2]; exact h.2.1 a h1 h2, fun a h1 h2 => by rw [hi a h1 h2]; exact h.2.2 a h1 h2⟩
theorem LB_w (w : xrw m m') (h : LB b m) : LB b m' := LB_c (w.1 10 0 114 (by decide)) (fun _ h1 h2 => xrw_16 w ⟨h1, h2⟩) (fun _ h1 h2 => xrw_37 w ⟨h1, h2⟩) h
theorem LB_F {M : yM} {hp z : zHp} (f : yF M hp z) (h : ydj M lbM = true) (k : LB b (xof hp)) : LB b (xof z) := by
  have q : ∀ i j : Nat, yinM lbM i (j : Int) = true → (xof z).1 i j = (xof hp).1 i j := fun i j hj => eF f (ydj_ok h i j hj)
  exact LB_c (funext fun j => q 10 j (yin_r (a := 10) (b := 10) (by decide) (by decide) (by decide))) (fun a h1 h2 => funext fun j => q a j (yin_r (a := 16) (b := 35) (by decide) h1 (by omega))) (fun a h1 h2 => funext fun j => q a j (yin_r (a := 37) (b := 40) (by decide) h1 (by omega))) k
theorem LB_kpc {n h : Nat} (n20 : n < 20) (l : b ≤ b') (L : LB b m) (C : lbR b' c') : LB b' (xr (kpc m n h) 10 c') := by
  refine ⟨by rw [xr_s]; exact C, fun a h1 h2 => ?_, fun a h1 h2 => ?_⟩
  · rw [xr_o (by omega)]
    by_cases z : a = 16 + n
    · subst z
      exact lbR_m l (lbR_c (fun j hj => kpc_k n20 hj) L.1)
    · rw [kpc_r (by omega) z]
      exact lbR_m l (L.2.1 a h1 h2)
  · rw [xr_o (by omega), kpc_r (by omega) (by omega)]
    exact lbR_m l (L.2.2 a h1 h2)
-- acts
theorem lb_ld (I : vI s) {t h : Nat} (ht : (t : Int) < (s 2).toInt) (hh : (h : Int) < (s 0).toInt) (hb : b ≤ 1000000) (L : lbS b s) : lbS (b + 1) (pld s t h) := fun u u6 hu => by
  have n6 := I_n6 I
  have nt := I_nt I
  have t6 : t < 6 := by omega
  have hol := (I.2.1 t ht).2.1
  have e2 : pld s t h 2 = s 2 := (pld_o (by omega) (by omega)).trans (pth_o (by omega))
  rw [e2] at hu
  by_cases z : u = t
  · subst z
    have k := (L u u6 hu).1
    have e : (s (10 + 6 * u + 4) + 1).toInt = (s (10 + 6 * u + 4)).toInt + 1 := xa1 (by show _ ≤ _ + (1 : Int); omega) (by show _ + (1 : Int) ≤ _; omega)
    rw [pld_4]
    exact ⟨by omega, fun _ => by omega⟩
  · have z := L u u6 hu
    rw [pld_o (by omega) (by omega), pld_o (by omega) (by omega), pld_o (by omega) (by omega), pth_o (by omega), pth_o (by omega), pth_o (by omega)]
    exact ⟨by omega, z.2⟩
theorem lb_gv {v : Int32} {t : Nat} (t6 : t < 6) (L : lbS b s) : lbS b (pgv s t v) := fun u u6 hu => by
  rw [pgv_o (by omega)] at hu
  by_cases z : u = t
  · subst z
    rw [pgv_4, pgv_3, pgv_0]
    exact ⟨⟨Int.le_refl _, by show (0 : Int) ≤ _; omega⟩, fun q => absurd rfl q⟩
  · rw [pgv_o (by omega), pgv_o (by omega), pgv_o (by omega)]
    exact L u u6 hu
theorem lb_wk {w : Nat} (w6 : w < 6) (L : lbS b s) : lbS b (pwk s w) := lbS_c ((cup_o (by omega)).trans (cup_o (by omega))) (fun t t6 => ⟨(cup_o (by omega)).trans (cup_o (by omega)), (cup_o (by omega)).trans (cup_o (by omega)), (cup_o (by omega)).trans (cup_o (by omega))⟩) L
theorem lb_qu {a d : Nat} (ha : a < 6) (hd : d < 6) (L : lbS b s) : lbS b (pqu s a d) := lbS_c (pqu_o (by omega) ha hd) (fun t t6 => ⟨pqu_o (by omega) ha hd, pqu_o (by omega) ha hd, pqu_o (by omega) ha hd⟩) L
theorem lb_dy (I : vI s) (L : lbS b s) : lbS b (pdy s) := lbS_c (pdy_o I (fun i _ => by omega) (by decide)) (fun t t6 => ⟨pdy_o I (fun i _ => by omega) (by omega), pdy_o I (fun i _ => by omega) (by omega), pdy_o I (fun i _ => by omega) (by omega)⟩) L
-- days by a rule
theorem lb_ldt (I : vI s) {t : Nat} {x : Int32} (ht : (t : Int) < (s 2).toInt) (o : okb s t x) (hb : b ≤ 1000000) (L : lbS b s) : lbS (b + 1) (ldt s t x) := by
  have n6 := I_n6 I
  unfold ldt
  rcases o with o | ⟨k, rfl, h1, h2⟩
  · rw [if_pos o]
    exact lbS_m (by omega) L
  · have ek := nJ (n := k) (by omega)
    rw [if_neg (fun z => by
      have z := congrArg Int32.toInt z
      rw [ek] at z
      have e1 : (-1 : Int32).toInt = -1 := rfl
      omega), ek, Int.toNat_natCast]
    exact lb_ld I ht h1 hb L
theorem lb_all {sm : (Nat → Int32) → Nat → Nat → Int64} : ∀ (n : Nat) {s : Nat → Int32} {t b : Nat}, vI s → ((t + n : Nat) : Int) ≤ (s 2).toInt → b + n ≤ 1000000 → lbS b s → lbS (b + n) (lall sm t n s)
  | 0, _, _, _, _, _, _, L => L
  | n + 1, s, t, b, I, l, hb, L => by
    show lbS (b + (n + 1)) (lall sm (t + 1) n (lnd1 sm s t))
    have o := lnd1_ok (sm := sm) (t := t) I
    have z := lb_all (sm := sm) n (s := lnd1 sm s t) (t := t + 1) (b := b + 1) (ldt_I I (by omega) o) (by
      show _ ≤ (ldt s t _ 2).toInt
      rw [ldt_k (by decide)]
      omega) (by omega) (lb_ldt I (by omega) o (by omega) L)
    rw [show b + (n + 1) = b + 1 + n by omega]
    exact z
theorem lb_fwk : ∀ (n : Nat) {s : Nat → Int32} {w : Nat}, w + n ≤ 6 → lbS b s → lbS b (fwk w n s)
  | 0, _, _, _, L => L
  | n + 1, s, w, l, L => by
    show lbS b (fwk (w + 1) n (if pcd s w = true then pwk s w else s))
    refine lb_fwk n (by omega) ?_
    split
    · exact lb_wk (by omega) L
    · exact L
theorem lb_day1 {sm : (Nat → Int32) → Nat → Nat → Int64} (I : vI s) (hb : b + 6 ≤ 1000000) (L : lbS b s) : lbS (b + 6) (day1 sm s) := by
  have n2 := I_nt I
  have n3 := I_nw I
  have J := lall_I (sm := sm) (s 2).toInt.toNat (t := 0) I (by omega)
  have K := fwk_I (s 3).toInt.toNat (w := 0) J (by rw [lall_k _ (by decide)]; omega)
  exact lb_dy K (lb_fwk _ (by omega) (lbS_m (by omega) (lb_all (s 2).toInt.toNat (t := 0) I (by omega) (by omega) L)))
theorem lb_rdays {sm : (Nat → Int32) → Nat → Nat → Int64} : ∀ (n : Nat) {s : Nat → Int32} {b : Nat}, vI s → (s 4).toInt + (n : Int) ≤ 999 → b + 6 * n ≤ 1000000 → lbS b s → lbS (b + 6 * n) (rdays sm n s)
  | 0, _, _, _, _, _, L => L
  | n + 1, s, b, I, d, hb, L => by
    have e := day1_d (sm := sm) I (by omega)
    have z := lb_rdays (sm := sm) n (s := day1 sm s) (b := b + 6) (day1_I I (by omega)) (by omega) (by omega) (lb_day1 I (by omega) L)
    rw [show b + 6 * (n + 1) = b + 6 + 6 * n by omega]
    exact z
end PLB
/-- a call of the class keeps the bounds -/
def lA (kc : Nat) (as : List Value) : Prop := ∀ hp, MR hp → ∀ (x : Int32) (z : zHp), zCan 20 kc (.ref 0 :: as) hp (some (.int x), z) → ∀ b : Nat, b ≤ 900000 → LB b (xof hp) → LB (b + 400) (xof z)
theorem lA_F {n1 : Nat} {sp1 : ySp} (T1 : yTs (yEA yAr) n1 sp1) {na : Nat} {bl : List Nat} (c1 : (eOk 0 na bl sp1.2.2.1 && (decide (n1 ≤ 20) && (decide (na + 1 ≤ sp1.2.1) && sp1.2.2.2.1.all eQok))) = true) (hN : ydj sp1.2.2.2.2 lbM = true) (ys : List Int32) (hl : ys.length = na) (hb : ∀ s ∈ bl, ∀ y, ys[s]? = some y → 0 ≤ y.toInt ∧ y.toInt ≤ 1) : lA sp1.1 (ys.map .int) := fun hp hI x z hz b _ L => by
  obtain ⟨x1, z1, a1, a2, a3, -⟩ := eSp T1 c1 hI.1.1.1 hl hb
  have u := zCan_u hz a1
  cases u
  exact LB_F a3 hN (LB_m (by omega) L)
theorem lA_D {kc : Nat} {as : List Value} {Dc : xS → Option (Int32 × xS)} (Zc : ∀ {hp : zHp}, yH0 hp → ∀ {y : Int32 × xS}, Dc (xof hp) = some y → zCan 20 kc (.ref 0 :: as) (xW hp (xof hp)) (some (.int y.1), xW hp y.2)) (K : ∀ m : xS, xT m → rMx m → ∀ b : Nat, b ≤ 900000 → LB b m → xP (Dc m) (fun _ m1 => LB (b + 400) m1)) : lA kc as := fun hp hI x z hz b hb L => by
  obtain ⟨y, hy, q⟩ := K (xof hp) (xT_of hI.1.1.1.1) hI.1.2 b hb L
  have u := Zc hI.1.1.1.1 hy
  rw [xW_of] at u
  have u := zCan_u hz u
  cases u
  exact LB_w (xrw_of hI.1.1.1.1 _) q
section PLB2
variable {b : Nat} {m : xS} {F : Nat}
theorem kLB {Dc : xS → Option (Int32 × xS)} {p : (Nat → Int32) → Bool} {val : (Nat → Int32) → Int32} {act : (Nat → Int32) → Nat → Int32} {f : Int32} (C : ∀ (m : xS) (n h : Nat), xT m → R32 (m.1 80) (m.1 10) → vI (m.1 80) → n < 20 → h ≤ 20 → m.1 14 1 = Int32.ofNat n → m.1 14 2 = Int32.ofNat h → if p (m.1 80) = true then ∃ c', Dc m = some (val (m.1 80), xr (kpc m n h) 10 c') ∧ R32 (act (m.1 80)) c' ∧ vI (act (m.1 80)) ∧ (∀ k, 124 ≤ k → k < 148 → act (m.1 80) k = m.1 80 k) else Dc m = some (f, m)) (La : ∀ (s : Nat → Int32) (b : Nat), vI s → p s = true → b ≤ 900000 → lbS b s → lbS (b + 1) (act s)) (m : xS) (hT : xT m) (M : rMx m) (b : Nat) (hb : b ≤ 900000) (L : LB b m) : xP (Dc m) (fun _ m1 => LB (b + 400) m1) := by
  obtain ⟨⟨R, I⟩, ⟨n, h, ⟨n20, h20⟩, ⟨e1, e2, e3⟩, -⟩, -⟩ := M
  have c := C m n h hT R I.1 n20 h20 e1 e2
  by_cases P : p (m.1 80) = true
  · rw [if_pos P] at c
    obtain ⟨c', k1, k2, k3, k4⟩ := c
    exact ⟨_, k1, LB_kpc n20 (by omega) L (lbR_m (b := b + 1) (by omega) (lb_SR k2 (La _ _ I.1 P hb (lb_RS R L.1))))⟩
  · rw [if_neg P] at c
    exact ⟨_, c, LB_m (by omega) L⟩
theorem kLB_ring (hF : 120000 ≤ F) (m : xS) (hT : xT m) (M : rMx m) (b : Nat) (hb : b ≤ 900000) (L : LB b m) : xP (D135_0 F m) (fun _ m1 => LB (b + 400) m1) := by
  obtain ⟨⟨R, I9⟩, ⟨nn, hh, ⟨n20, h20⟩, ⟨e1, e2, e3⟩, -⟩, -⟩ := M
  have I := I9.1
  have n6 := I_n6 I
  have n0 := I_n0 I
  obtain ⟨N, eN⟩ : ∃ N : Nat, (m.1 80 0).toInt = (N : Int) := ⟨(m.1 80 0).toInt.toNat, by omega⟩
  have e0 : m.1 80 0 = Int32.ofNat N := i32n eN
  have hN : N ≤ 6 := by omega
  obtain ⟨m1, d1, w, q⟩ := c63 (F := F) (m := m) (by omega) I e0 hN R
  have L1 : LB b m1 := LB_c (w 10 (by decide) (by decide)) (fun a h1 h2 => w a (by omega) (by omega)) (fun a h1 h2 => w a (by omega) (by omega)) L
  have f1 : m1.1 14 1 = Int32.ofNat nn := by rw [w 14 (by decide) (by decide)]; exact e1
  have f2 : m1.1 14 2 = Int32.ofNat hh := by rw [w 14 (by decide) (by decide)]; exact e2
  unfold D135_0
  cases e : srg (m.1 80) N (N - 1) 2 with
  | none =>
    rw [e] at q
    have q : m1.1 67 1 = 0 := q
    exact ⟨(-1, m1), ob d1 (oF (znz q) rfl), LB_m (by omega) L1⟩
  | some qq =>
    rw [e] at q
    obtain ⟨n, c⟩ := qq
    obtain ⟨l1, l2, l3, l4⟩ := srg_i e
    have l1 : 2 ≤ n := l1
    have l2 : n < 2 + (N - 1) := l2
    have N1 : 1 ≤ N := by omega
    have kp : ∀ a, a ≠ 14 → a ≠ 16 + nn → (kpc m1 nn hh).1 a = m1.1 a := fun a h1 h2 => kpc_r h1 h2
    have q : rgO m1 N (n, c) := q
    have q2 : rgO (kpc m1 nn hh) N (n, c) := ⟨by rw [kp 67 (by decide) (by omega)]; exact q.1, fun j hj => by rw [kp 68 (by decide) (by omega)]; exact q.2 j hj⟩
    obtain ⟨c', k1, k2⟩ := c65_2 (F := F) (n := n) (c := c) N1 hN l1 (by omega) F (k := 0) (s := m.1 80) (m := kpc m1 nn hh) (by omega) (by omega) (by rw [kp 10 (by decide) (by omega), w 10 (by decide) (by decide)]; exact R) q2
    rw [Nat.sub_zero] at k2
    refine ⟨(_, _), ob d1 (oT (znn (by show m1.1 67 1 ≠ 0; rw [show m1.1 67 1 = Int32.ofNat n from q.1]; exact nI0 (by omega) (by omega))) (ob (c16_9 f1 f2 n20 h20) (ob (a := ()) (m := xr (kpc m1 nn hh) 10 c') ?_ rfl))), ?_⟩
    · unfold D65_67_9
      exact k1
    · have o : ∀ j : Nat, j < 82 → pst (m.1 80) N n c 0 n j = m.1 80 j := fun j hj => pst_o N1 hN (Or.inl hj) n
      exact LB_kpc n20 (by omega) L1 (lbR_m (b := b) (by omega) (lb_SR k2 (lbS_c (o 2 (by decide)) (fun t t6 => ⟨o _ (by omega), o _ (by omega), o _ (by omega)⟩) (lb_RS R L.1))))
theorem kLB_undo (m : xS) (hT : xT m) (M : rMx m) (b : Nat) (hb : b ≤ 900000) (L : LB b m) : xP (D138_0 F m) (fun _ m1 => LB (b + 400) m1) := by
  obtain ⟨⟨R, I⟩, ⟨n, h, ⟨n20, h20⟩, ⟨e1, e2, e3⟩, H⟩, -⟩ := M
  unfold D138_0
  by_cases h0 : h = 0
  · subst h0
    exact ⟨(_, _), ob rfl (oF (znz e2) rfl), LB_m (by omega) L⟩
  · have h0 : 0 < h := by omega
    refine ⟨(_, _), ob rfl (oT (znn (by show m.1 14 2 ≠ 0; rw [e2]; exact nI0 h0 (by omega))) (ob (c17_9 e1 e2 n20 h20 h0) (ob rfl rfl))), ?_⟩
    have k : ∀ a, a ≠ 10 → a ≠ 14 → (xcp (xu (xu m 14 1 (Int32.ofNat ((n + 19) % 20))) 14 2 (Int32.ofNat (h - 1))) 10 (16 + (n + 19) % 20) 114).1 a = m.1 a := fun a z1 z2 => (xcp_o z1).trans (funext fun b => (xu_o (fun z => z2 z.1)).trans (xu_o (fun z => z2 z.1)))
    have k10 : ∀ j, j < 114 → (xcp (xu (xu m 14 1 (Int32.ofNat ((n + 19) % 20))) 14 2 (Int32.ofNat (h - 1))) 10 (16 + (n + 19) % 20) 114).1 10 j = m.1 (16 + (n + 19) % 20) j := fun j hj => (xcp_s hj).trans ((xu_o (by omega)).trans (xu_o (by omega)))
    exact LB_m (b := b) (by omega) ⟨lbR_c k10 (L.2.1 _ (by omega) (by omega)), fun a h1 h2 => by rw [k a (by omega) (by omega)]; exact L.2.1 a h1 h2, fun a h1 h2 => by rw [k a (by omega) (by omega)]; exact L.2.2 a h1 h2⟩
theorem kLB_image {a1 : Int32} (m : xS) (hT : xT m) (M : rMx m) (b : Nat) (hb : b ≤ 900000) (L : LB b m) : xP (D155_0 F a1 m) (fun _ m1 => LB (b + 400) m1) := by
  obtain ⟨⟨R, I⟩, -⟩ := M
  unfold D155_0
  by_cases l0 : a1.toInt < 0
  · exact ⟨(_, _), oT (zcl.trans (decide_eq_true l0)) rfl, LB_m (by omega) L⟩
  by_cases l4 : a1.toInt < 4
  · obtain ⟨k, hk, ek⟩ := pin4 l0 l4
    have ik : xib a1 4 = true := gxb ek hk
    have K10 : (xu (xu (xcp m (37 + k) 10 114) 41 k (m.1 43 0)) 42 k 1).1 10 = m.1 10 := funext fun b => (xu_o (by omega)).trans ((xu_o (by omega)).trans (congrFun (xcp_o (by omega)) b))
    have v43 : (xcp m (37 + k) 10 114).1 43 0 = m.1 43 0 := congrFun (xcp_o (by omega)) 0
    refine ⟨(m.1 80 4, xu (xu (xcp m (37 + k) 10 114) 41 k (m.1 43 0)) 42 k 1), ?_, ?_⟩
    · refine oF (zcl.trans (decide_eq_false l0)) (oT (zcl.trans (decide_eq_true l4)) ?_)
      rw [if_pos ik, gxn ek]
      refine ob rfl ?_
      dsimp only
      rw [if_pos ik, if_pos ik, v43]
      exact ob (c81_9 (s := m.1 80) (by show R32 _ ((xu (xu (xcp m (37 + k) 10 114) 41 k (m.1 43 0)) 42 k 1).1 10); rw [K10]; exact R)) rfl
    · have ko : ∀ a, a ≠ 37 + k → a ≠ 41 → a ≠ 42 → (xu (xu (xcp m (37 + k) 10 114) 41 k (m.1 43 0)) 42 k 1).1 a = m.1 a := fun a z1 z2 z3 => funext fun b => (xu_o (fun z => z3 z.1)).trans ((xu_o (fun z => z2 z.1)).trans (congrFun (xcp_o z1) b))
      have kr : ∀ j, j < 114 → (xu (xu (xcp m (37 + k) 10 114) 41 k (m.1 43 0)) 42 k 1).1 (37 + k) j = m.1 10 j := fun j hj => (xu_o (by omega)).trans ((xu_o (by omega)).trans (xcp_s hj))
      refine LB_m (b := b) (by omega) ⟨?_, fun a h1 h2 => ?_, fun a h1 h2 => ?_⟩
      · show lbR b ((xu (xu (xcp m (37 + k) 10 114) 41 k (m.1 43 0)) 42 k 1).1 10)
        rw [K10]
        exact L.1
      · show lbR b ((xu (xu (xcp m (37 + k) 10 114) 41 k (m.1 43 0)) 42 k 1).1 a)
        rw [ko a (by omega) (by omega) (by omega)]
        exact L.2.1 a h1 h2
      · show lbR b ((xu (xu (xcp m (37 + k) 10 114) 41 k (m.1 43 0)) 42 k 1).1 a)
        by_cases z : a = 37 + k
        · subst z
          exact lbR_c kr L.1
        · rw [ko a z (by omega) (by omega)]
          exact L.2.2 a h1 h2
  · exact ⟨(_, _), oF (zcl.trans (decide_eq_false l0)) (oF (zcl.trans (decide_eq_false l4)) rfl), LB_m (by omega) L⟩
theorem kLB_back {a1 : Int32} (m : xS) (hT : xT m) (M : rMx m) (b : Nat) (hb : b ≤ 900000) (L : LB b m) : xP (D156_0 F a1 m) (fun _ m1 => LB (b + 400) m1) := by
  obtain ⟨⟨R, I⟩, -, Mi, -⟩ := M
  unfold D156_0
  by_cases l0 : a1.toInt < 0
  · exact ⟨(_, _), oT (zcl.trans (decide_eq_true l0)) rfl, LB_m (by omega) L⟩
  by_cases l4 : a1.toInt < 4
  · obtain ⟨k, hk, ek⟩ := pin4 l0 l4
    have ik : xib a1 4 = true := gxb ek hk
    by_cases nz : m.1 42 k = 0
    · refine ⟨(-1, m), oF (zcl.trans (decide_eq_false l0)) (oF (zc.trans (decide_eq_false (by show ¬ (4 : Int) ≤ _; omega))) ?_), LB_m (by omega) L⟩
      rw [if_pos ik, gxn ek]
      exact oF (znz nz) rfl
    · obtain ⟨b1, b2, b3⟩ := (Mi k hk).2 nz
      have ko : ∀ a, a ≠ 10 → a ≠ 14 → a ≠ 43 → (xu (xu (xcp m 10 (37 + k) 114) 43 0 (m.1 41 k)) 14 2 0).1 a = m.1 a := fun a z1 z2 z3 => funext fun b => (xu_o (fun z => z2 z.1)).trans ((xu_o (fun z => z3 z.1)).trans (congrFun (xcp_o z1) b))
      have kr : ∀ j, j < 114 → (xu (xu (xcp m 10 (37 + k) 114) 43 0 (m.1 41 k)) 14 2 0).1 10 j = m.1 (37 + k) j := fun j hj => (xu_o (by omega)).trans ((xu_o (by omega)).trans (xcp_s hj))
      have v41 : (xcp m 10 (37 + k) 114).1 41 k = m.1 41 k := congrFun (xcp_o (by decide)) k
      have R1 : R32 (irow (m.1 85) k) ((xu (xu (xcp m 10 (37 + k) 114) 43 0 (m.1 41 k)) 14 2 0).1 10) := R_c b1 (fun _ _ => rfl) kr
      refine ⟨(irow (m.1 85) k 4, xu (xu (xcp m 10 (37 + k) 114) 43 0 (m.1 41 k)) 14 2 0), ?_, ?_⟩
      · refine oF (zcl.trans (decide_eq_false l0)) (oF (zc.trans (decide_eq_false (by show ¬ (4 : Int) ≤ _; omega))) ?_)
        rw [if_pos ik, gxn ek]
        refine oT (znn nz) ?_
        rw [if_pos ik]
        refine ob rfl ?_
        dsimp only
        rw [if_pos ik, v41]
        exact ob rfl (ob (c81_9 R1) rfl)
      · refine LB_m (b := b) (by omega) ⟨lbR_c kr (L.2.2 _ (by omega) (by omega)), fun a h1 h2 => ?_, fun a h1 h2 => ?_⟩
        · show lbR b ((xu (xu (xcp m 10 (37 + k) 114) 43 0 (m.1 41 k)) 14 2 0).1 a)
          rw [ko a (by omega) (by omega) (by omega)]
          exact L.2.1 a h1 h2
        · show lbR b ((xu (xu (xcp m 10 (37 + k) 114) 43 0 (m.1 41 k)) 14 2 0).1 a)
          rw [ko a (by omega) (by omega) (by omega)]
          exact L.2.2 a h1 h2
  · exact ⟨(_, _), oF (zcl.trans (decide_eq_false l0)) (oT (zc.trans (decide_eq_true (by show (4 : Int) ≤ _; omega))) rfl), LB_m (by omega) L⟩
end PLB2
/-- run -/
theorem lA_run {y1 y2 : Int32} : lA 139 [.int y1, .int y2] := fun hp hI x z hz b hb L => by
  have H := hI.1.1.1.1
  obtain ⟨⟨R, I⟩, -⟩ := hI.1.2
  have b8 : (0 : Int) ≤ ((xof hp).1 0 8).toInt ∧ ((xof hp).1 0 8).toInt ≤ 6 := xT_of H 0 8 (0, 6) rfl
  by_cases P : pRu ((xof hp).1 80) ((xof hp).1 0 8).toInt y1 y2
  · have P' := P
    obtain ⟨p0, ⟨p1, p2⟩, ⟨p3, p4⟩, p5⟩ := P'
    obtain ⟨j, hj⟩ : ∃ j : Nat, y1.toInt = (j : Int) := ⟨y1.toInt.toNat, by omega⟩
    obtain ⟨d, hd⟩ : ∃ d : Nat, y2.toInt = (d : Int) := ⟨y2.toInt.toNat, by omega⟩
    have ey2 : y2 = Int32.ofNat d := ofn_i hd (by omega)
    obtain ⟨o, C, CL, Q, q1, q2, q3, q4, q5⟩ := hI.2 j (by omega)
    have A := rlA_of H C (by omega) hj
    have G : ∀ w, cgd w o.reverse [] := fun w => by
      have z := cgd_out (w := w) (rest := []) q3 (by rw [← q4]; exact q5) trivial
      rw [List.append_nil, ← q4] at z
      exact z
    obtain ⟨m', d1, d2, d3, d4, d5⟩ := c139_57 (F := 500) (Nat.le_refl _) (r0 := 88 + 3 * j) (by omega) C.2.2.2.1 List.length_reverse G (ru := y1) (v3 := (xof hp).1 80 5) ey2 (by omega) 500 (s := (xof hp).1 80) (m := xof hp) (i := 0) I.1 R (stp_of C) (by omega) (Nat.zero_le _) (by omega)
    rw [Nat.sub_zero] at d1 d2 d3 d4
    have u := Z139_0_A H (F := 500) (ru := y1) (rk := true) (r0 := 88 + 3 * j) (nn := o.length) (fun _ => A) ((c139p R I P).trans d1) (d := 20) (by decide)
    rw [xW_of] at u
    have u := zCan_u hz u
    cases u
    refine LB_w (xrw_of H _) (LB_c (m := m') (xu_row (by decide)) (fun a h1 h2 => xu_row (by omega)) (fun a h1 h2 => xu_row (by omega)) (LB_m (b := b + 6 * d) (by omega) ⟨lb_SR d2 (lb_rdays d I.1 (by omega) (by omega) (lb_RS R L.1)), fun a h1 h2 => ?_, fun a h1 h2 => ?_⟩))
    · rw [d5.1 a (by omega)]
      exact lbR_m (by omega) (L.2.1 a h1 h2)
    · rw [d5.1 a (by omega)]
      exact lbR_m (by omega) (L.2.2 a h1 h2)
  · have zc1 : zCan 20 139 [.ref 0, .int y1, .int y2] hp (some (.int (-1)), hp) := by
      by_cases v : 0 ≤ y1.toInt ∧ y1.toInt < ((xof hp).1 0 8).toInt
      · obtain ⟨j, hj⟩ : ∃ j : Nat, y1.toInt = (j : Int) := ⟨y1.toInt.toNat, by omega⟩
        obtain ⟨o, C, -⟩ := hI.2 j (by omega)
        have A := rlA_of H C (by omega) hj
        have u := Z139_0_A H (F := 500) (ru := y1) (rk := true) (r0 := 88 + 3 * j) (nn := o.length) (fun _ => A) (c139n R I (fun _ => rfl) P) (d := 20) (by decide)
        rw [xW_of] at u
        exact u
      · have u := Z139_0_A H (F := 500) (ru := y1) (rk := false) (r0 := 0) (nn := 0) (fun z => by cases z) (c139n R I (fun z => absurd z v) P) (d := 20) (by decide)
        rw [xW_of] at u
        exact u
    have u := zCan_u hz zc1
    cases u
    exact LB_m (by omega) L
/-- village -/
theorem lA_vil : lA 125 [] := fun hp hI x z hz b hb L => by
  obtain ⟨x3, z3, p1, p2, p3, -⟩ := eSp (yt1537b yXx.1) (c := 0) (na := 0) (bl := []) (by decide +kernel) hI.1.1.1 (ys := []) rfl (fun s hs => by cases hs)
  have u := zCan_u hz p1
  cases u
  have hT := xT_of hI.1.1.1.1
  have b1 : (0 : Int) ≤ ((xof hp).1 0 1).toInt ∧ ((xof hp).1 0 1).toInt ≤ 400 := hT 0 1 (0, 400) rfl
  obtain ⟨n, hn⟩ : ∃ n : Nat, ((xof hp).1 0 1).toInt = (n : Int) := ⟨((xof hp).1 0 1).toInt.toNat, by omega⟩
  obtain ⟨v, m', w1, w2, w3⟩ := kVil (b := fun j => ((xof hp).1 1 j).toInt) (d := 20) hI.1.1.1.1 (by decide) hn (fun _ _ => rfl)
  have u := zCan_u p1 w1
  cases u
  have k1 : ydj ys1537b.2.2.2.2 rMV = true := by decide +kernel
  have g : ∀ i j : Nat, yinM rMV i (j : Int) = true → (xof (xW (kB hp) m')).1 i j = (xof hp).1 i j := fun i j hj => eF p3 (ydj_ok k1 i j hj)
  have gr : ∀ a b : Nat, (a, b, 1000) ∈ rMV → ∀ i, a ≤ i → i ≤ b → (xof (xW (kB hp) m')).1 i = (xof hp).1 i := fun a b h i h1 h2 => funext fun j => g i j (yin_r h h1 h2)
  have e10 : (xof (xW (kB hp) m')).1 10 = m'.1 10 := xof_t (kB_H hI.1.1.1.1) (k := 0) (n := 114) (by decide)
  have L2 := LB_m (b := b) (b' := b + 400) (by omega) L
  refine ⟨?_, fun a h1 h2 => ?_, fun a h1 h2 => ?_⟩
  · rw [e10]
    rcases w3 with ⟨g0, g1, g2, g3, g4⟩ | ⟨s, g1, g2, g3, g4, g5⟩
    · rw [g3]
      exact L2.1
    · have J := vJ_r 42 (Or.inl ⟨rfl, rfl⟩) g1
      intro t t6 ht
      have f2 : (m'.1 12 2).toInt = s 2 := (g4.1 2 (by decide)).trans (by unfold vdn; rw [if_neg (by omega)])
      rw [g3 2 (by decide), f2] at ht
      obtain ⟨-, j3, j4, -⟩ := J.2.1 t ht
      have q : ∀ w : Nat, w < 6 → (m'.1 10 (6 + 6 * w + t)).toInt = s (10 + 6 * t + w) := fun w hw => by
        rw [g3 _ (by omega)]
        refine (g4.2.1 t w t6 hw).trans ?_
        unfold vdn
        rw [if_neg (by omega)]
      have q0 := q 0 (by decide)
      have q3 := q 3 (by decide)
      have q4 := q 4 (by decide)
      rw [show 6 + 6 * 0 + t = 6 + t by omega] at q0
      rw [show 6 + 6 * 3 + t = 24 + t by omega] at q3
      rw [show 6 + 6 * 4 + t = 30 + t by omega, j4] at q4
      refine ⟨by omega, fun ne => absurd (Int32.toInt_inj.mp ?_) ne⟩
      rw [q3, q0]
      exact j3
  · rw [gr 16 35 (by decide) a h1 (by omega)]
    exact L2.2.1 a h1 h2
  · rw [gr 37 42 (by decide) a h1 (by omega)]
    exact L2.2.2 a h1 h2
