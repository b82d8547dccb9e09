/-! Matchings of the reference: they come to an end, and what they may change. -/
def kmt (m m' : xS) : Prop := (∀ i j, i ≠ 82 → i ≠ 83 → ¬ (i = 70 ∧ (j = 27 ∨ j = 30)) → m'.1 i j = m.1 i j) ∧ m'.2 = m.2
theorem kmt_r (m : xS) : kmt m m := ⟨fun _ _ _ _ _ => rfl, rfl⟩
theorem kmt_t {a b c : xS} (h1 : kmt a b) (h2 : kmt b c) : kmt a c := ⟨fun i j e1 e2 e3 => (h2.1 i j e1 e2 e3).trans (h1.1 i j e1 e2 e3), h2.2.trans h1.2⟩
theorem kmt_c {a b : xS} (h : kc a b) : kmt a b := ⟨fun i j _ _ e => h.1 i j (fun y => e ⟨y.1, Or.inl y.2⟩), h.2⟩
theorem kmt_u {m : xS} {i j : Nat} {v : Int32} (h : i = 82 ∨ i = 83 ∨ (i = 70 ∧ (j = 27 ∨ j = 30))) : kmt m (xu m i j v) := ⟨fun a b e1 e2 e3 => xu_o (fun y => by
  rcases h with z | z | z
  · omega
  · omega
  · exact e3 ⟨by omega, by omega⟩), rfl⟩
theorem kmt_80 {a b : xS} {s : Nat → Int32} (h : kmt a b) (e : a.1 80 = s) : b.1 80 = s := (funext fun j => h.1 80 j (by decide) (by decide) (fun y => absurd y.1 (by decide))).trans e
section PMTC
variable {s : Nat → Int32} {m : xS} {F : Nat}
theorem d159 {a b : Int32} : ∃ v, D159 F a b m = some (v, m) := by
  unfold D159
  split <;> exact ⟨_, rfl⟩
theorem i6w {t w : Nat} (ht : t < 7) (hw : w < 7) : (6 * Int32.ofNat t + Int32.ofNat w).toInt = ((6 * t + w : Nat) : Int) := by
  have e1 : ((6 : Int32) * Int32.ofNat t).toInt = ((6 * t : Nat) : Int) := (xm1 (by show _ ≤ (6 : Int) * _; rw [nJ (by omega)]; omega) (by show (6 : Int) * _ ≤ _; rw [nJ (by omega)]; omega)).trans (by rw [nJ (by omega)]; show (6 : Int) * _ = _; omega)
  exact ixp e1 (nJ (by omega)) (by omega)
theorem P253_14 (hF : 120000 ≤ F) (I : vI s) {t : Nat} (ht : (t : Int) < (s 2).toInt) {v1 : Int32} {g2 : Int32 → Int32 → xS → Option (Unit × xS)} {Q : Unit → xS → Prop} {m0 : xS} (K : ∀ m', m'.1 80 = s → kmt m0 m' → xP (g2 v1 (Int32.ofNat (t + 1)) m') Q) : ∀ (f : Nat) {m : xS} {w : Nat}, m.1 80 = s → kmt m0 m → (w : Int) ≤ (s 3).toInt → 7 - w < f → xP (D253_14 F g2 f v1 (Int32.ofNat t) (Int32.ofNat w) m) Q := by
  have n3 := I_nw I
  have n6 := I_n6 I
  have t6 : t < 6 := by have := I_nt I; omega
  intro f
  induction f with
  | zero => intro m w _ _ _ l; omega
  | succ f ih =>
    intro m w es k hw l
    have ew := nJ (n := w) (by omega)
    unfold D253_14
    rw [es]
    refine xP_i (fun _ => ?_) (fun c => ?_)
    · rw [(o1 (n := t) (by omega)).2.2]
      exact K m es k
    · have c : ¬ (s 3).toInt ≤ (Int32.ofNat w).toInt := of_decide_eq_false (zc.symm.trans c)
      have w3 : (w : Int) < (s 3).toInt := by omega
      have w6 : w < 6 := by omega
      have iw := I.2.2.1 w w3
      have ix := i6w (t := t) (w := w) (by omega) (by omega)
      have p118 : ∀ {m1 : xS} {v4 v5 w0 : Int32}, m1.1 80 = s → kmt m0 m1 → xP (D253_118 F g2 (D253_14 F g2 f) v1 (Int32.ofNat t) (Int32.ofNat w) v4 v5 w0 (6 * Int32.ofNat t + Int32.ofNat w) m1) Q := fun {m1 v4 v5 w0} e1 k1 => by
        unfold D253_118
        refine xP_g (gxb ix (by omega)) ?_
        rw [(o1 (n := w) (by omega)).2.2]
        exact ih ((xu_row (by decide)).trans e1) (kmt_t k1 (kmt_u (Or.inl rfl))) (by omega) (by omega)
      have p117 : ∀ {m1 : xS} {v4 v5 : Int32}, m1.1 80 = s → kmt m0 m1 → xP (D253_117 F g2 (D253_14 F g2 f) v1 (Int32.ofNat t) (Int32.ofNat w) v4 v5 (6 * Int32.ofNat t + Int32.ofNat w) m1) Q := fun {m1 v4 v5} e1 k1 => by
        unfold D253_117
        exact p118 e1 k1
      have p80 : ∀ {m1 : xS} {v4 w0 : Int32}, m1.1 80 = s → kmt m0 m1 → xP (D253_80 F g2 (D253_14 F g2 f) v1 (Int32.ofNat t) (Int32.ofNat w) v4 w0 m1) Q := fun {m1 v4 w0} e1 k1 => by
        unfold D253_80
        refine xP_i (fun _ => p117 e1 k1) (fun _ => ?_)
        refine xP_bp (r214 rfl t6) (xP_bp (r209 (k := 2) rfl rfl w6 (by decide)) (xP_i (fun _ => p117 e1 k1) (fun _ => p118 e1 k1)))
      have p57 : ∀ {m1 : xS} {w0 : Int32}, m1.1 80 = s → kmt m0 m1 → xP (D253_57 F g2 (D253_14 F g2 f) v1 (Int32.ofNat t) (Int32.ofNat w) w0 m1) Q := fun {m1 w0} e1 k1 => by
        unfold D253_57
        refine xP_i (fun _ => p80 e1 k1) (fun _ => xP_bp (r209 (k := 0) rfl rfl w6 (by decide)) ?_)
        have ep : m1.1 80 (124 + 4 * w + 0) = Int32.ofNat (s (124 + 4 * w)).toInt.toNat := by
          show m1.1 80 (124 + 4 * w) = _
          rw [e1]
          exact i32n (by omega)
        dsimp only
        rw [ep]
        obtain ⟨m2, z1, z2, -⟩ := r251 (F := F) (m := m1) (lg := true) (v3 := 1) (by decide) hF (by rw [e1]; exact I) (t := t) (h := (s (124 + 4 * w)).toInt.toNat) (by rw [e1]; exact ht) (by rw [e1]; omega)
        exact xP_bp z1 (p80 (kmt_80 (kmt_c z2) e1) (kmt_t k1 (kmt_c z2)))
      have p56 : ∀ {m1 : xS}, m1.1 80 = s → kmt m0 m1 → xP (D253_56 F g2 (D253_14 F g2 f) v1 (Int32.ofNat t) (Int32.ofNat w) m1) Q := fun {m1} e1 k1 => by
        unfold D253_56
        exact p57 e1 k1
      refine xP_i (fun _ => p56 es k) (fun _ => xP_bp (r215 rfl w6) (xP_i (fun _ => p56 es k) (fun _ => xP_bp (r208 (w := 1) rfl rfl t6 (by decide)) (xP_bp (r209 (k := 1) rfl rfl w6 (by decide)) (xP_i (fun _ => p56 es k) (fun _ => p57 es k))))))
theorem P253_2 (hF : 120000 ≤ F) (I : vI s) {v1 : Int32} {m0 : xS} : ∀ (f : Nat) {m : xS} {t : Nat}, m.1 80 = s → kmt m0 m → (t : Int) ≤ (s 2).toInt → 7 - t < f → xP (D253_2 F f v1 (Int32.ofNat t) m) (fun _ m' => kmt m0 m') := by
  have n2 := I_nt I
  have n3 := I_nw I
  intro f
  induction f with
  | zero => intro m t _ _ _ l; omega
  | succ f ih =>
    intro m t es k ht l
    have et := nJ (n := t) (by omega)
    unfold D253_2
    rw [es]
    refine xP_i (fun _ => xP_r k) (fun c => ?_)
    have c : ¬ (s 2).toInt ≤ (Int32.ofNat t).toInt := of_decide_eq_false (zc.symm.trans c)
    exact P253_14 hF I (by omega) (fun m' e1 k1 => ih e1 k1 (by omega) (by omega)) F (w := 0) es k (by omega) (by omega)
theorem P253 (hF : 120000 ≤ F) (I : vI s) {v1 : Int32} (es : m.1 80 = s) : xP (D253 F v1 m) (fun _ m' => kmt m m') := by
  have n2 := I_nt I
  unfold D253
  exact P253_2 hF I F (t := 0) es (kmt_r m) (by omega) (by omega)
/-- toolIn -/
theorem r254 (hF : 500 ≤ F) (I : vI (m.1 80)) {c w : Nat} (hw : (w : Int) < (m.1 80 3).toInt) (hc : c < 2147483648) : D254 F (Int32.ofNat c) (Int32.ofNat w) m = some (Int32.ofNat (dgt ((m.1 80 2).toInt.toNat + 1) (m.1 80 3).toInt.toNat c w) - 1, m) := by
  have n2 := I_nt I
  have n3 := I_nw I
  have e2 : m.1 80 2 = Int32.ofNat (m.1 80 2).toInt.toNat := i32n (by omega)
  have e3 : m.1 80 3 = Int32.ofNat (m.1 80 3).toInt.toNat := i32n (by omega)
  generalize hT : (m.1 80 2).toInt.toNat = T at e2 ⊢
  generalize hW : (m.1 80 3).toInt.toNat = W at e3 ⊢
  have eT : m.1 80 2 + 1 = Int32.ofNat (T + 1) := by
    rw [e2]
    exact xadd (a := T) (b := 1) (by omega)
  have eW : m.1 80 3 - 1 - Int32.ofNat w = Int32.ofNat (W - 1 - w) := by
    rw [e3, show Int32.ofNat W - 1 = Int32.ofNat (W - 1) from xsub (a := W) (b := 1) (by omega) (by omega)]
    exact xsub (by omega) (by omega)
  have b := p6b (N := T + 1) (k := W - 1 - w) (by omega) (by omega)
  have p : 0 < (T + 1) ^ (W - 1 - w) := Nat.pow_pos (by omega)
  unfold D254
  rw [eT, eW]
  refine ob (r235 (by omega) rfl rfl (by omega) (by omega) (by omega)) ?_
  dsimp only
  rw [eT]
  refine oT (n0b p (by omega)) (oT (n0b (by omega) (by omega)) ?_)
  have l := Nat.div_le_self c ((T + 1) ^ (W - 1 - w))
  rw [i32dv hc (by omega) p, i32md (by omega) (by omega) (by omega)]
  rfl
theorem P255_7 (hF : 500 ≤ F) (I : vI (m.1 80)) {c : Nat} (hc : c < 2147483648) : ∀ (f : Nat) {w : Nat} {v2 v3 : Int32}, (w : Int) ≤ (m.1 80 3).toInt → 7 - w < f → xP (D255_7 F f (Int32.ofNat c) v2 v3 (Int32.ofNat w) m) (fun _ m' => m' = m) := by
  have n2 := I_nt I
  have n3 := I_nw I
  intro f
  induction f with
  | zero => intro w v2 v3 _ l; omega
  | succ f ih =>
    intro w v2 v3 hw l
    have ew := nJ (n := w) (by omega)
    unfold D255_7
    refine xP_i (fun _ => xP_r rfl) (fun cc => ?_)
    have cc : ¬ (m.1 80 3).toInt ≤ (Int32.ofNat w).toInt := of_decide_eq_false (zc.symm.trans cc)
    have w3 : (w : Int) < (m.1 80 3).toInt := by omega
    have w6 : w < 6 := by omega
    have dl := dgt_lt (N := (m.1 80 2).toInt.toNat + 1) (n := (m.1 80 3).toInt.toNat) (c := c) (k := w) (by omega)
    generalize hd : dgt ((m.1 80 2).toInt.toNat + 1) (m.1 80 3).toInt.toNat c w = d at dl
    have z := r254 (F := F) hF I w3 hc
    rw [hd] at z
    have nx : ∀ {v2' v3' v5 : Int32}, xP (D255_79 F (D255_7 F f) (Int32.ofNat c) v2' v3' (Int32.ofNat w) v5 m) (fun _ m' => m' = m) := fun {v2' v3' v5} => by
      unfold D255_79
      rw [(o1 (n := w) (by omega)).2.2]
      exact ih (by omega) (by omega)
    refine xP_bp z (xP_i (fun a => ?_) (fun _ => nx))
    have ed := nJ (n := d) (by omega)
    have l1 : (1 : Int32).toInt = 1 := rfl
    have l0 : (0 : Int32).toInt = 0 := rfl
    have em : (Int32.ofNat d - 1).toInt = (d : Int) - 1 := (xs1 (by rw [l1]; omega) (by rw [l1]; omega)).trans (by rw [ed, l1])
    have a : (0 : Int32).toInt ≤ (Int32.ofNat d - 1).toInt := of_decide_eq_true (zc.symm.trans a)
    have e1 : Int32.ofNat d - 1 = Int32.ofNat (d - 1) := xsub (a := d) (b := 1) (by omega) (by omega)
    dsimp only
    rw [e1]
    have ix := i6w (t := d - 1) (w := w) (by omega) (by omega)
    refine xP_g (gxb ix (by omega)) (xP_i (fun _ => ?_) (fun _ => ?_))
    · unfold D255_60
      exact xP_r rfl
    · obtain ⟨v, y⟩ := d159 (F := F) (m := m) (a := v2) (b := Int32.ofNat (d - 1))
      refine xP_bp y (xP_i (fun _ => xP_bp (r209 (k := 3) rfl rfl w6 (by decide)) nx) (fun _ => ?_))
      unfold D255_60
      exact xP_r rfl
theorem P255 (hF : 500 ≤ F) (I : vI (m.1 80)) {c : Nat} (hc : c < 2147483648) : xP (D255 F (Int32.ofNat c) m) (fun _ m' => m' = m) := by
  have n3 := I_nw I
  unfold D255
  exact P255_7 hF I hc F (w := 0) (by omega) (by omega)
theorem P256_70 (hF : 500 ≤ F) (I : vI s) {c : Nat} (hc : c < 2147483648) {v1 : Int32} {m0 : xS} : ∀ (f : Nat) {m : xS} {w : Nat}, m.1 80 = s → kmt m0 m → (w : Int) ≤ (s 3).toInt → 7 - w < f → xP (D256_70 F f v1 (Int32.ofNat c) (Int32.ofNat w) m) (fun _ m' => kmt m0 m') := by
  have n3 := I_nw I
  intro f
  induction f with
  | zero => intro m w _ _ _ l; omega
  | succ f ih =>
    intro m w es k hw l
    have ew := nJ (n := w) (by omega)
    unfold D256_70
    rw [es]
    refine xP_i (fun _ => xP_r k) (fun cc => ?_)
    have cc : ¬ (s 3).toInt ≤ (Int32.ofNat w).toInt := of_decide_eq_false (zc.symm.trans cc)
    refine xP_bp (r254 hF (by rw [es]; exact I) (by rw [es]; omega) hc) (xP_g (gxb ew (by omega)) ?_)
    rw [(o1 (n := w) (by omega)).2.2]
    exact ih ((xu_row (by decide)).trans es) (kmt_t k (kmt_u (Or.inr (Or.inl rfl)))) (by omega) (by omega)
theorem P256_14 (hF : 120000 ≤ F) (I : vI s) {v1 : Int32} {m0 : xS} : ∀ (f : Nat) {m : xS} {c b : Nat}, m.1 80 = s → kmt m0 m → c ≤ ((s 2).toInt.toNat + 1) ^ (s 3).toInt.toNat → b < 2147483648 → ((s 2).toInt.toNat + 1) ^ (s 3).toInt.toNat - c < f → xP (D256_14 F f v1 (Int32.ofNat b) (Int32.ofNat c) m) (fun _ m' => kmt m0 m') := by
  have n2 := I_nt I
  have n3 := I_nw I
  have bb := p6b (N := (s 2).toInt.toNat + 1) (k := (s 3).toInt.toNat) (by omega) (by omega)
  have e2 : s 2 = Int32.ofNat (s 2).toInt.toNat := i32n (by omega)
  have e3 : s 3 = Int32.ofNat (s 3).toInt.toNat := i32n (by omega)
  have eT : s 2 + 1 = Int32.ofNat ((s 2).toInt.toNat + 1) := by
    have y := xadd (a := (s 2).toInt.toNat) (b := 1) (by omega)
    rw [← e2] at y
    exact y
  intro f
  induction f with
  | zero => intro m c b _ _ _ _ l; omega
  | succ f ih =>
    intro m c b es k hc hb l
    have ec := xI (a := c) (by omega)
    unfold D256_14
    rw [es, eT]
    refine xP_bp (r235 (by omega) rfl e3 (by omega) (by omega) (by omega)) (xP_i (fun _ => ?_) (fun cc => ?_))
    · exact P256_70 (by omega) I hb F (w := 0) es k (by omega) (by omega)
    · have cc : ¬ (Int32.ofNat (((s 2).toInt.toNat + 1) ^ (s 3).toInt.toNat)).toInt ≤ (Int32.ofNat c).toInt := of_decide_eq_false (zc.symm.trans cc)
      rw [xI (by omega), ec] at cc
      refine xP_b (P255 (by omega) (by rw [es]; exact I) (by omega)) (fun v m1 q => ?_)
      subst q
      have nx : ∀ {b' : Nat} {v4 : Int32} {m2 : xS}, b' < 2147483648 → m2.1 80 = s → kmt m0 m2 → xP (D256_62 F (D256_14 F f) v1 (Int32.ofNat b') (Int32.ofNat c) v4 m2) (fun _ m' => kmt m0 m') := fun {b' v4 m2} h1 h2 h3 => by
        unfold D256_62
        rw [show Int32.ofNat c + Int32.ofInt 1 = Int32.ofNat (c + 1) from xadd (a := c) (b := 1) (by omega)]
        exact ih h2 h3 (by omega) h1 (by omega)
      exact xP_i (fun _ => nx (by omega) ((xu_row (by decide)).trans es) (kmt_t k (kmt_u (Or.inr (Or.inr ⟨rfl, Or.inr rfl⟩))))) (fun _ => nx hb es k)
/-- matches -/
theorem P256 (hF : 120000 ≤ F) (I : vI s) {v1 : Int32} (es : m.1 80 = s) : xP (D256 F v1 m) (fun _ m' => kmt m m') := by
  have n2 := I_nt I
  have n3 := I_nw I
  have bb := p6b (N := (s 2).toInt.toNat + 1) (k := (s 3).toInt.toNat) (by omega) (by omega)
  unfold D256
  refine xP_b (P253 hF I es) (fun _ m1 k1 => ?_)
  have k2 : kmt m (xu m1 70 30 (-1)) := kmt_t k1 (kmt_u (Or.inr (Or.inr ⟨rfl, Or.inr rfl⟩)))
  exact P256_14 hF I F (c := 0) (b := 0) (kmt_80 k2 es) k2 (by omega) (by omega) (by omega)
/-- getsOne -/
theorem P270_2 (hF : 120000 ≤ F) (I : vI s) {h : Nat} (hh : (h : Int) < (s 0).toInt) {v2 : Int32} {m0 : xS} : ∀ (f : Nat) {m : xS} {t : Nat}, m.1 80 = s → kmt m0 m → (t : Int) ≤ (s 2).toInt → 7 - t < f → xP (D270_2 F f (Int32.ofNat h) v2 (Int32.ofNat t) m) (fun _ m' => kmt m0 m') := by
  have n2 := I_nt I
  intro f
  induction f with
  | zero => intro m t _ _ _ l; omega
  | succ f ih =>
    intro m t es k ht l
    have et := nJ (n := t) (by omega)
    unfold D270_2
    rw [es]
    refine xP_i (fun _ => xP_r k) (fun cc => ?_)
    have cc : ¬ (s 2).toInt ≤ (Int32.ofNat t).toInt := of_decide_eq_false (zc.symm.trans cc)
    have t6 : t < 6 := by omega
    have nx : ∀ {m2 : xS}, m2.1 80 = s → kmt m0 m2 → xP (D270_44 F (D270_2 F f) (Int32.ofNat h) v2 (Int32.ofNat t) m2) (fun _ m' => kmt m0 m') := fun {m2} h2 h3 => by
      unfold D270_44
      rw [(o1 (n := t) (by omega)).2.2]
      exact ih h2 h3 (by omega) (by omega)
    refine xP_bp (r208 (w := 1) rfl rfl t6 (by decide)) (xP_i (fun _ => nx es k) (fun _ => xP_bp (r208 (w := 0) rfl rfl t6 (by decide)) (xP_i (fun _ => nx es k) (fun _ => ?_))))
    obtain ⟨m2, z1, z2, -⟩ := r251 (F := F) (m := m) (lg := false) (v3 := 0) (by decide) hF (by rw [es]; exact I) (t := t) (h := h) (by rw [es]; omega) (by rw [es]; exact hh)
    have k2 := kmt_t k (kmt_c z2)
    exact xP_bp z1 (xP_i (fun _ => nx (kmt_80 (kmt_c z2) es) k2) (fun _ => xP_r k2))
theorem P270 (hF : 120000 ≤ F) (I : vI s) {h : Nat} (hh : (h : Int) < (s 0).toInt) {v2 : Int32} (es : m.1 80 = s) : xP (D270 F (Int32.ofNat h) v2 m) (fun _ m' => kmt m m') := by
  have n2 := I_nt I
  unfold D270
  exact P270_2 hF I hh F (t := 0) es (kmt_r m) (by omega) (by omega)
/-- keeps, laysBack -/
theorem r259_2 : ∀ (f : Nat) {m : xS} {k : Nat}, k ≤ 124 → 124 - k < f → ∃ c, D259_2 F f (Int32.ofNat k) m = some ((), xr m 84 c) ∧ (∀ j, k ≤ j → j < 124 → c j = m.1 80 j) ∧ ∀ j, j < k → c j = m.1 84 j := by
  intro f
  induction f with
  | zero => intro m k _ l; omega
  | succ f ih =>
    intro m k hk l
    have ek := nJ (n := k) (by omega)
    have e124 : (124 : Int32).toInt = 124 := rfl
    unfold D259_2
    by_cases q : 124 ≤ k
    · exact ⟨m.1 84, oT (zc.trans (decide_eq_true (by omega))) (by rw [xr_id]), fun j h1 h2 => by omega, fun _ _ => rfl⟩
    · obtain ⟨c, d1, d2, d3⟩ := ih (m := xu m 84 k (m.1 80 k)) (k := k + 1) (by omega) (by omega)
      have r80 : (xu m 84 k (m.1 80 k)).1 80 = m.1 80 := xu_row (by decide)
      refine ⟨c, oF (zc.trans (decide_eq_false (by omega))) (oT (gxb ek (by omega)) (oT (gxb ek (by omega)) ?_)), fun j h1 h2 => ?_, fun j h1 => ?_⟩
      · rw [gxn ek, (o1 (n := k) (by omega)).2.2, d1, xu_xr, xr_xr]
      · by_cases z : j = k
        · rw [z, d3 k (by omega), xu_s]
        · rw [d2 j (by omega) h2, r80]
      · rw [d3 j (by omega), xu_o (fun y => by omega)]
theorem r259 (hF : 500 ≤ F) : ∃ c, D259 F m = some ((), xr m 84 c) ∧ ∀ j, j < 124 → c j = m.1 80 j := by
  obtain ⟨c, d1, d2, -⟩ := r259_2 (F := F) F (m := m) (k := 0) (by omega) (by omega)
  unfold D259
  exact ⟨c, d1, fun j hj => d2 j (Nat.zero_le _) hj⟩
theorem r260_2 : ∀ (f : Nat) {m : xS} {k : Nat}, k ≤ 124 → 124 - k < f → ∃ c, D260_2 F f (Int32.ofNat k) m = some ((), xr m 80 c) ∧ (∀ j, k ≤ j → j < 124 → c j = m.1 84 j) ∧ ∀ j, (j < k ∨ 124 ≤ j) → c j = m.1 80 j := by
  intro f
  induction f with
  | zero => intro m k _ l; omega
  | succ f ih =>
    intro m k hk l
    have ek := nJ (n := k) (by omega)
    have e124 : (124 : Int32).toInt = 124 := rfl
    unfold D260_2
    by_cases q : 124 ≤ k
    · exact ⟨m.1 80, oT (zc.trans (decide_eq_true (by omega))) (by rw [xr_id]), fun j h1 h2 => by omega, fun _ _ => rfl⟩
    · obtain ⟨c, d1, d2, d3⟩ := ih (m := xu m 80 k (m.1 84 k)) (k := k + 1) (by omega) (by omega)
      have r84 : (xu m 80 k (m.1 84 k)).1 84 = m.1 84 := xu_row (by decide)
      refine ⟨c, oF (zc.trans (decide_eq_false (by omega))) (oT (gxb ek (by omega)) (oT (gxb ek (by omega)) ?_)), fun j h1 h2 => ?_, fun j h1 => ?_⟩
      · rw [gxn ek, (o1 (n := k) (by omega)).2.2, d1, xu_xr, xr_xr]
      · by_cases z : j = k
        · rw [z, d3 k (by omega), xu_s]
        · rw [d2 j (by omega) h2, r84]
      · rw [d3 j (by omega), xu_o (fun y => by omega)]
/-- what was kept is laid back -/
theorem r260 (hF : 500 ≤ F) {s : Nat → Int32} (h1 : ∀ j, j < 124 → m.1 84 j = s j) (h2 : ∀ j, 124 ≤ j → m.1 80 j = s j) : D260 F m = some ((), xr m 80 s) := by
  obtain ⟨c, d1, d2, d3⟩ := r260_2 (F := F) F (m := m) (k := 0) (by omega) (by omega)
  have e : c = s := funext fun j => by
    by_cases z : j < 124
    · rw [d2 j (Nat.zero_le _) z, h1 j z]
    · rw [d3 j (Or.inr (by omega)), h2 j (by omega)]
  unfold D260
  rw [← e]
  exact d1
end PMTC
