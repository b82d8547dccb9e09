/-! The reference's matches, exactly. -/
/-- can a tool do a work (but one tool that is left out) -/
def abl2 (s : Nat → Int32) (w t : Nat) : Bool := decide (0 ≤ (cvl s t (s (124 + 4 * w)).toInt.toNat true).toInt) && decide ((s (124 + 4 * w + 2)).toInt ≤ (psh s t (cvl s t (s (124 + 4 * w)).toInt.toNat true)).toInt)
def abl (s : Nat → Int32) (wo : Int32) (w t : Nat) : Bool := decide ((t : Int) < (s 2).toInt) && (!(Int32.ofNat t == wo) && (!pdn s w && (s (10 + 6 * t + 1) == s (124 + 4 * w + 1) && abl2 s w t)))
def payI (s : Nat → Int32) (w : Nat) : Int := (s (124 + 4 * w + 3)).toInt
theorem xP_T {α : Type} {c : Bool} {a b : Option (α × xS)} {Q : α → xS → Prop} (h : c = true) (k : xP a Q) : xP (if c = true then a else b) Q := by
  rw [if_pos h]
  exact k
theorem xP_F {α : Type} {c : Bool} {a b : Option (α × xS)} {Q : α → xS → Prop} (h : c = false) (k : xP b Q) : xP (if c = true then a else b) Q := by
  rw [if_neg (by rw [h]; decide)]
  exact k
section PRMT
variable {s : Nat → Int32} {m : xS} {F : Nat}
/-- which of the pairs stand in row 82 -/
def jM (s : Nat → Int32) (wo : Int32) (m0 : xS) (t w : Nat) (m : xS) : Prop := m.1 80 = s ∧ kmt m0 m ∧ ∀ t' w' : Nat, (t' < t ∧ (w' : Int) < (s 3).toInt) ∨ (t' = t ∧ w' < w) → m.1 82 (6 * t' + w') = pB (abl s wo w' t')
theorem jM_c {wo : Int32} {m0 m m' : xS} {t w : Nat} (j : jM s wo m0 t w m) (k : kc m m') : jM s wo m0 t w m' := ⟨kmt_80 (kmt_c k) j.1, kmt_t j.2.1 (kmt_c k), fun t' w' h => (k.1 82 _ (fun z => absurd z.1 (by decide))).trans (j.2.2 t' w' h)⟩
theorem P253x_14 (hF : 120000 ≤ F) (I : vI s) {t : Nat} (ht : (t : Int) < (s 2).toInt) {v1 : Int32} {g2 : Int32 → Int32 → xS → Option (Unit × xS)} {Q : Unit → xS → Prop} {m0 : xS} (K : ∀ m', jM s v1 m0 (t + 1) 0 m' → xP (g2 v1 (Int32.ofNat (t + 1)) m') Q) : ∀ (f : Nat) {m : xS} {w : Nat}, jM s v1 m0 t w m → (w : Int) ≤ (s 3).toInt → 7 - w < f → xP (D253_14 F g2 f v1 (Int32.ofNat t) (Int32.ofNat w) m) Q := by
  have n3 := I_nw I
  have n6 := I_n6 I
  have t6 : t < 6 := by have := I_nt I; omega
  have l0 : (0 : Int32).toInt = 0 := rfl
  intro f
  induction f with
  | zero => intro m w _ _ l; omega
  | succ f ih =>
    intro m w j hw l
    have es := j.1
    have ew := nJ (n := w) (by omega)
    unfold D253_14
    rw [es]
    refine xP_i (fun c => ?_) (fun c => ?_)
    · have c : (s 3).toInt ≤ (Int32.ofNat w).toInt := of_decide_eq_true (zc.symm.trans c)
      rw [(o1 (n := t) (by omega)).2.2]
      exact K m ⟨es, j.2.1, fun t' w' h => j.2.2 t' w' (by omega)⟩
    · have c : ¬ (s 3).toInt ≤ (Int32.ofNat w).toInt := of_decide_eq_false (zc.symm.trans c)
      have w3 : (w : Int) < (s 3).toInt := by omega
      have w6 : w < 6 := by omega
      have iw := I.2.2.1 w w3
      have ix := i6w (t := t) (w := w) (by omega) (by omega)
      have p118 : ∀ {m1 : xS} {v4 v5 w0 : Int32}, jM s v1 m0 t w m1 → vp_nar .boolean w0 = pB (abl s v1 w t) → xP (D253_118 F g2 (D253_14 F g2 f) v1 (Int32.ofNat t) (Int32.ofNat w) v4 v5 w0 (6 * Int32.ofNat t + Int32.ofNat w) m1) Q := fun {m1 v4 v5 w0} j1 hv => by
        unfold D253_118
        refine xP_g (gxb ix (by omega)) ?_
        rw [(o1 (n := w) (by omega)).2.2, gxn ix]
        refine ih ⟨(xu_row (by decide)).trans j1.1, kmt_t j1.2.1 (kmt_u (Or.inl rfl)), fun t' w' h => ?_⟩ (by omega) (by omega)
        by_cases z : t' = t ∧ w' = w
        · rw [z.1, z.2, xu_s, hv]
        · rw [xu_o (fun y => z (by omega))]
          exact j1.2.2 t' w' (by omega)
      have p117 : ∀ {m1 : xS} {v4 v5 : Int32}, jM s v1 m0 t w m1 → abl s v1 w t = false → xP (D253_117 F g2 (D253_14 F g2 f) v1 (Int32.ofNat t) (Int32.ofNat w) v4 v5 (6 * Int32.ofNat t + Int32.ofNat w) m1) Q := fun {m1 v4 v5} j1 hv => by
        unfold D253_117
        exact p118 j1 (by rw [hv]; rfl)
      have p56 : abl s v1 w t = false → ∀ {m1 : xS}, jM s v1 m0 t w m1 → xP (D253_56 F g2 (D253_14 F g2 f) v1 (Int32.ofNat t) (Int32.ofNat w) m1) Q := fun hv {m1} j1 => by
        unfold D253_56 D253_57
        refine xP_T (by decide) ?_
        unfold D253_80
        exact xP_T (by decide) (p117 j1 hv)
      have ad : abl s v1 w t = (!(Int32.ofNat t == v1) && (!pdn s w && (s (10 + 6 * t + 1) == s (124 + 4 * w + 1) && abl2 s w t))) := by
        unfold abl
        rw [decide_eq_true ht, Bool.true_and]
      by_cases c1 : Int32.ofNat t = v1
      · exact xP_T (by rw [zce]; exact beq_iff_eq.mpr c1) (p56 (by rw [ad, beq_iff_eq.mpr c1]; rfl) j)
      rw [beq_eq_false_iff_ne.mpr c1, Bool.not_false, Bool.true_and] at ad
      refine xP_F (by rw [zce]; exact beq_eq_false_iff_ne.mpr c1) (xP_bp (r215 rfl w6) ?_)
      rw [es]
      by_cases c2 : pdn s w = true
      · exact xP_T (znT c2) (p56 (by rw [ad, c2]; rfl) j)
      have c2 : pdn s w = false := by simpa using c2
      rw [c2, Bool.not_false, Bool.true_and] at ad
      refine xP_F (znF c2) (xP_bp (r208 (w := 1) rfl rfl t6 (by decide)) (xP_bp (r209 (k := 1) rfl rfl w6 (by decide)) ?_))
      rw [es]
      by_cases c3 : s (10 + 6 * t + 1) = s (124 + 4 * w + 1)
      rotate_left
      · exact xP_T (by rw [zcn]; show (!(s (10 + 6 * t + 1) == s (124 + 4 * w + 1))) = true; rw [beq_eq_false_iff_ne.mpr c3]; rfl) (p56 (by rw [ad, beq_eq_false_iff_ne.mpr c3]; rfl) j)
      rw [beq_iff_eq.mpr c3, Bool.true_and] at ad
      refine xP_F (by rw [zcn]; show (!(s (10 + 6 * t + 1) == s (124 + 4 * w + 1))) = false; rw [beq_iff_eq.mpr c3]; rfl) ?_
      unfold D253_57
      refine xP_F (by decide) (xP_bp (r209 (k := 0) rfl rfl w6 (by decide)) ?_)
      have ep : m.1 80 (124 + 4 * w + 0) = Int32.ofNat (s (124 + 4 * w)).toInt.toNat := by
        show m.1 80 (124 + 4 * w) = _
        rw [es]
        exact i32n (by omega)
      dsimp only
      rw [ep]
      obtain ⟨m2, z1, z2, -⟩ := r251 (F := F) (m := m) (lg := true) (v3 := 1) (by decide) hF (by rw [es]; exact I) (t := t) (h := (s (124 + 4 * w)).toInt.toNat) (by rw [es]; exact ht) (by rw [es]; omega)
      rw [es] at z1
      have j2 := jM_c j z2
      refine xP_bp z1 ?_
      unfold D253_80
      unfold abl2 at ad
      generalize cvl s t (s (124 + 4 * w)).toInt.toNat true = x at ad
      by_cases c4 : x.toInt < 0
      · exact xP_T (zcl.trans (decide_eq_true (by dsimp only; omega))) (p117 j2 (by rw [ad, decide_eq_false (by omega), Bool.false_and]))
      rw [decide_eq_true (by omega), Bool.true_and] at ad
      refine xP_F (zcl.trans (decide_eq_false (by dsimp only; omega))) (xP_bp (r214 rfl t6) (xP_bp (r209 (k := 2) rfl rfl w6 (by decide)) ?_))
      dsimp only
      rw [j2.1]
      by_cases c5 : (psh s t x).toInt < (s (124 + 4 * w + 2)).toInt
      · exact xP_T (zcl.trans (decide_eq_true c5)) (p117 j2 (by rw [ad, decide_eq_false (by omega)]))
      · exact xP_F (zcl.trans (decide_eq_false c5)) (p118 j2 (by rw [ad, decide_eq_true (by omega)]; rfl))
theorem P253x_2 (hF : 120000 ≤ F) (I : vI s) {v1 : Int32} {m0 : xS} : ∀ (f : Nat) {m : xS} {t : Nat}, jM s v1 m0 t 0 m → (t : Int) ≤ (s 2).toInt → 7 - t < f → xP (D253_2 F f v1 (Int32.ofNat t) m) (fun _ m' => jM s v1 m0 (s 2).toInt.toNat 0 m') := by
  have n2 := I_nt I
  have n3 := I_nw I
  intro f
  induction f with
  | zero => intro m t _ _ l; omega
  | succ f ih =>
    intro m t j ht l
    have et := nJ (n := t) (by omega)
    unfold D253_2
    rw [j.1]
    refine xP_i (fun c => ?_) (fun c => ?_)
    · have c : (s 2).toInt ≤ (Int32.ofNat t).toInt := of_decide_eq_true (zc.symm.trans c)
      rw [show (s 2).toInt.toNat = t by omega]
      exact xP_r j
    · have c : ¬ (s 2).toInt ≤ (Int32.ofNat t).toInt := of_decide_eq_false (zc.symm.trans c)
      exact P253x_14 hF I (by omega) (fun m' j1 => ih j1 (by omega) (by omega)) F (w := 0) j (by omega) (by omega)
theorem P253x (hF : 120000 ≤ F) (I : vI s) {v1 : Int32} (es : m.1 80 = s) : xP (D253 F v1 m) (fun _ m' => jM s v1 m (s 2).toInt.toNat 0 m') := by
  have n2 := I_nt I
  unfold D253
  exact P253x_2 hF I F (t := 0) ⟨es, kmt_r m, fun t' w' h => by omega⟩ (by omega) (by omega)
/-- what a code earns -/
theorem r255_7 (hF : 500 ≤ F) (I : vI s) {v1 : Int32} {m0 : xS} (j : jM s v1 m0 (s 2).toInt.toNat 0 m) (hp : ∀ w : Nat, (w : Int) < (s 3).toInt → 0 ≤ payI s w ∧ payI s w ≤ 1000) {c : Nat} (hc : c < 2147483648) : ∀ (f : Nat) {w T : Nat} {x : Int32}, T < 64 → (w : Int) ≤ (s 3).toInt → 0 ≤ x.toInt → x.toInt ≤ 1000 * (w : Int) → 7 - w < f → ∃ v, D255_7 F f (Int32.ofNat c) (Int32.ofNat T) x (Int32.ofNat w) m = some (v, m) ∧ (match asv (abl s v1) (payI s) w T ((dg ((s 2).toInt.toNat + 1) (s 3).toInt.toNat c).drop w) with
    | some y => v.toInt = x.toInt + y
    | none => v = -1) := by
  have n2 := I_nt I
  have n3 := I_nw I
  have es := j.1
  have l0 : (0 : Int32).toInt = 0 := rfl
  have l1 : (1 : Int32).toInt = 1 := rfl
  intro f
  induction f with
  | zero => intro w T x _ _ _ _ l; omega
  | succ f ih =>
    intro w T x hT hw x0 x1 l
    have ew := nJ (n := w) (by omega)
    unfold D255_7
    rw [es]
    by_cases q : (s 3).toInt ≤ (w : Int)
    · have e9 : (dg ((s 2).toInt.toNat + 1) (s 3).toInt.toNat c).drop w = [] := List.drop_eq_nil_of_le (by rw [dg_len]; omega)
      rw [e9]
      refine ⟨x, oT (zc.trans (decide_eq_true (by omega))) rfl, ?_⟩
      show x.toInt = x.toInt + 0
      omega
    · have w3 : (w : Int) < (s 3).toInt := by omega
      have w6 : w < 6 := by omega
      rw [dg_drop (by omega)]
      have dl := dgt_lt (N := (s 2).toInt.toNat + 1) (n := (s 3).toInt.toNat) (c := c) (k := w) (by omega)
      have z := r254 (F := F) (m := m) hF (by rw [es]; exact I) (c := c) (w := w) (by rw [es]; exact w3) hc
      rw [es] at z
      generalize hd : dgt ((s 2).toInt.toNat + 1) (s 3).toInt.toNat c w = d at dl z ⊢
      have ed := nJ (n := d) (by omega)
      have em : (Int32.ofNat d - 1).toInt = (d : Int) - 1 := (xs1 (by rw [l1]; omega) (by rw [l1]; omega)).trans (by rw [ed, l1])
      have g : zcmp .ge (Int32.ofNat w) (s 3) = false := zc.trans (decide_eq_false (by omega))
      have nx : ∀ {T' : Nat} {x' v5 : Int32}, T' < 64 → 0 ≤ x'.toInt → x'.toInt ≤ 1000 * ((w + 1 : Nat) : Int) → ∃ v, D255_79 F (D255_7 F f) (Int32.ofNat c) (Int32.ofNat T') x' (Int32.ofNat w) v5 m = some (v, m) ∧ (match asv (abl s v1) (payI s) (w + 1) T' ((dg ((s 2).toInt.toNat + 1) (s 3).toInt.toNat c).drop (w + 1)) with
          | some y => v.toInt = x'.toInt + y
          | none => v = -1) := fun {T' x' v5} h1 h2 h3 => by
        obtain ⟨v, k1, k2⟩ := ih (w := w + 1) (T := T') (x := x') h1 (by omega) h2 h3 (by omega)
        refine ⟨v, ?_, k2⟩
        unfold D255_79
        rw [(o1 (n := w) (by omega)).2.2]
        exact k1
      by_cases d0 : d = 0
      · obtain ⟨v, k1, k2⟩ := nx (T' := T) (x' := x) (v5 := Int32.ofNat d - 1) hT x0 (by omega)
        refine ⟨v, oF g (ob z (oF (zc.trans (decide_eq_false (by dsimp only; omega))) k1)), ?_⟩
        have ea : asv (abl s v1) (payI s) w T (d :: (dg ((s 2).toInt.toNat + 1) (s 3).toInt.toNat c).drop (w + 1)) = asv (abl s v1) (payI s) (w + 1) T ((dg ((s 2).toInt.toNat + 1) (s 3).toInt.toNat c).drop (w + 1)) := if_pos d0
        rw [ea]
        exact k2
      · have e1 : Int32.ofNat d - 1 = Int32.ofNat (d - 1) := xsub (a := d) (b := 1) (by omega) (by omega)
        have ix := i6w (t := d - 1) (w := w) (by omega) (by omega)
        have cell := j.2.2 (d - 1) w (Or.inl ⟨by omega, w3⟩)
        have ea : asv (abl s v1) (payI s) w T (d :: (dg ((s 2).toInt.toNat + 1) (s 3).toInt.toNat c).drop (w + 1)) = if (abl s v1 w (d - 1) && !T.testBit (d - 1)) = true then (asv (abl s v1) (payI s) (w + 1) (T ||| 2 ^ (d - 1)) ((dg ((s 2).toInt.toNat + 1) (s 3).toInt.toNat c).drop (w + 1))).map (fun y => payI s w + y) else none := if_neg d0
        have g1 : zcmp .ge (Int32.ofNat d - 1) 0 = true := zc.trans (decide_eq_true (by omega))
        rw [ea]
        by_cases c1 : abl s v1 w (d - 1) = true
        · rw [c1] at cell
          have r1 := r159 (F := F) (m := m) (v0 := Int32.ofNat T) (v1 := Int32.ofNat (d - 1)) rfl rfl hT (by omega)
          by_cases c2 : T.testBit (d - 1) = true
          · rw [c2] at r1
            rw [c1, c2, if_neg (show ¬ ((true && !true) = true) by decide)]
            refine ⟨-1, oF g (ob z (oT g1 ?_)), rfl⟩
            dsimp only
            rw [e1, if_pos (gxb ix (by omega)), gxn ix, cell]
            exact oF (zeF rfl) (ob r1 (oF (zeF rfl) rfl))
          · have c2 : T.testBit (d - 1) = false := by simpa using c2
            rw [c2] at r1
            rw [c1, c2, if_pos (show (true && !false) = true from rfl)]
            obtain ⟨b1, b2⟩ := bor hT (h := d - 1) (by omega)
            have pw := hp w w3
            have ex : (x + s (124 + 4 * w + 3)).toInt = x.toInt + payI s w := xa1 (by unfold payI at pw; omega) (by unfold payI at pw; omega)
            have r2 := r209 (F := F) (m := m) (w := w) (k := 3) rfl rfl w6 (by decide)
            rw [es] at r2
            obtain ⟨v, k1, k2⟩ := nx (T' := T ||| 2 ^ (d - 1)) (x' := x + s (124 + 4 * w + 3)) (v5 := Int32.ofNat (d - 1)) b2 (by omega) (by omega)
            refine ⟨v, oF g (ob z (oT g1 ?_)), ?_⟩
            · dsimp only
              rw [e1, if_pos (gxb ix (by omega)), gxn ix, cell]
              refine oF (zeF rfl) (ob r1 (oT (zeT rfl) (ob r2 ?_)))
              rw [b1]
              exact k1
            · cases y : asv (abl s v1) (payI s) (w + 1) (T ||| 2 ^ (d - 1)) ((dg ((s 2).toInt.toNat + 1) (s 3).toInt.toNat c).drop (w + 1)) with
              | none =>
                rw [y] at k2
                exact k2
              | some u =>
                rw [y] at k2
                have k2 : v.toInt = (x + s (124 + 4 * w + 3)).toInt + u := k2
                show v.toInt = x.toInt + (payI s w + u)
                omega
        · have c1 : abl s v1 w (d - 1) = false := by simpa using c1
          rw [c1] at cell
          rw [c1, Bool.false_and, if_neg (show ¬ (false = true) by decide)]
          refine ⟨-1, oF g (ob z (oT g1 ?_)), rfl⟩
          dsimp only
          rw [e1, if_pos (gxb ix (by omega)), gxn ix, cell]
          exact oT (by decide) rfl
end PRMT
