/-! Tests: what waits. -/
def zbc (f : Nat → Int32) : Nat → Nat
  | 0 => 0
  | n + 1 => zbc f n + (if f n = 12 ∨ f n = 13 then 1 else 0)
theorem zbc_c {f g : Nat → Int32} : ∀ {n : Nat}, (∀ j, j < n → g j = f j) → zbc g n = zbc f n
  | 0, _ => rfl
  | n + 1, h => by
    show zbc g n + _ = zbc f n + _
    rw [zbc_c (fun j hj => h j (by omega)), h n (by omega)]
def xB (m : xS) : Nat := zbc (m.1 77) ((m.1 70 16).toInt).toNat
def zsn (c : Int32) : Int32 := if c = 13 then 1 else if c = 12 then 2 else if c = 11 then 3 else 0
abbrev xMT : yM := [(70, 70, 8), (70, 70, 9), (70, 70, 10), (70, 70, 12), (70, 70, 13), (70, 70, 16), (72, 72, 1000), (73, 73, 1000), (77, 77, 1000)]
abbrev xME : yM := [(70, 70, 13), (70, 70, 16), (72, 72, 1000), (73, 73, 1000)]
abbrev xMO : yM := [(70, 70, 9), (70, 70, 13), (70, 70, 16), (77, 77, 1000)]
section XTST
variable {F t b D : Nat} {m m' : xS} {K : Int}
theorem xT16 (h : xT m) : 0 ≤ (m.1 70 16).toInt ∧ (m.1 70 16).toInt ≤ 400 := h 70 16 (0, 400) rfl
theorem xB_f {N : yM} (f : xfr N m m') (h1 : ∀ j : Nat, yinM N 77 (j : Int) = false) (h2 : yinM N 70 16 = false) : xB m' = xB m ∧ (m'.1 70 16).toInt = (m.1 70 16).toInt := by
  have e1 : m'.1 77 = m.1 77 := funext fun j => f.2 77 j (h1 j)
  unfold xB
  rw [e1, f.2 70 16 h2]
  exact ⟨rfl, rfl⟩
/-- strength -/
theorem P175 {c : Int32} : D175 F c m = some (zsn c, m) := by
  unfold D175 zsn
  by_cases h1 : c = 13
  · subst h1; rfl
  · by_cases h2 : c = 12
    · subst h2; rfl
    · by_cases h3 : c = 11
      · subst h3; rfl
      · have a1 : zcmp .ne c 13 = true := decide_eq_true h1
        have a2 : zcmp .ne c 12 = true := decide_eq_true h2
        have a3 : zcmp .ne c 11 = true := decide_eq_true h3
        rw [if_neg h1, if_neg h2, if_neg h3, if_pos a1, if_pos a2, if_pos a3]
theorem zsn_1 {c l : Int32} (h : ¬ (zsn c).toInt < l.toInt) (hl : 1 ≤ l.toInt) : c = 11 ∨ c = 12 ∨ c = 13 := by
  unfold zsn at h
  split at h
  · next e => exact Or.inr (Or.inr e)
  · split at h
    · next e => exact Or.inr (Or.inl e)
    · split at h
      · next e => exact Or.inl e
      · have h : ¬ (0 : Int) < l.toInt := h
        omega
/-- settles -/
theorem P176_0 {l : Int32} (hl : 1 ≤ l.toInt) (hK : 0 ≤ K) : ∀ (f : Nat) {m : xS}, xpr t b (xB m + 1) ((m.1 70 16).toInt + K) m → (m.1 70 16).toInt < f → xP (D176_0 F f l m) (fun _ m' => xq t xME m m' ∧ (m'.1 70 8).toInt = (m.1 70 8).toInt ∧ xpr t b (xB m' + 1) ((m'.1 70 16).toInt + K) m' ∧ (∀ k : Nat, (k : Int) < (m.1 70 16).toInt → m.1 77 k = 91 → (k : Int) < (m'.1 70 16).toInt) ∧ ((m'.1 70 16).toInt ≤ 0 ∨ (zsn (m.1 77 (((m'.1 70 16).toInt).toNat - 1))).toInt < l.toInt))
  | 0, m, p, hf => by have := xT16 p.2.1; omega
  | f + 1, m, p, hf => by
    have bo := xT16 p.2.1
    unfold D176_0
    refine xP_i (fun c => ?_) (fun c => ?_)
    · have c : (m.1 70 16).toInt ≤ (0 : Int) := zt c
      exact xP_r ⟨xq_r p.2.1 p.2.2.1, rfl, p, fun _ h _ => h, Or.inl c⟩
    · have c : ¬ (m.1 70 16).toInt ≤ (0 : Int) := zf c
      have e1 : (m.1 70 16 - 1).toInt = (m.1 70 16).toInt - 1 := xs1 (by show _ ≤ _ - (1 : Int); omega) (by show _ - (1 : Int) ≤ _; omega)
      have e2 : (m.1 70 16 - 1).toNatClampNeg = ((m.1 70 16).toInt).toNat - 1 := by show (m.1 70 16 - 1).toInt.toNat = _; omega
      have ib : xib (m.1 70 16 - 1) 400 = true := xib_t (by omega) (by omega)
      refine xP_g ib ?_
      rw [P175, e2]
      show xP (if zcmp .lt (zsn (m.1 77 (((m.1 70 16).toInt).toNat - 1))) l = true then _ else _) _
      refine xP_i (fun c2 => ?_) (fun c2 => xP_g ib ?_)
      · have c2 : (zsn (m.1 77 (((m.1 70 16).toInt).toNat - 1))).toInt < l.toInt := zt c2
        exact xP_r ⟨xq_r p.2.1 p.2.2.1, rfl, p, fun _ h _ => h, Or.inr c2⟩
      · have c2 : ¬ (zsn (m.1 77 (((m.1 70 16).toInt).toNat - 1))).toInt < l.toInt := zf c2
        have cc := zsn_1 c2 hl
        dsimp only
        rw [e2]
        have hT1 : xT (xu m 70 16 (m.1 70 16 - 1)) := xT_c p.2.1 (i := 70) (j := 16) rfl (by omega) (by omega)
        have f1 : xfr xME m (xu m 70 16 (m.1 70 16 - 1)) := xfr_u rfl
        have o1 : ((xu m 70 16 (m.1 70 16 - 1)).1 70 16).toInt = (m.1 70 16).toInt - 1 := by rw [xu_s]; exact e1
        have g1 : xg t b (xB m + 1) (xu m 70 16 (m.1 70 16 - 1)) := p.2.2.2.2.2.2
        have p1 : xpr t b (xB m + 1) (((m.1 70 16).toInt - 1 + K) + 1) (xu m 70 16 (m.1 70 16 - 1)) := ⟨p.1, hT1, p.2.2.1, p.2.2.2.1, by omega, (by
          have h : (m.1 73 t).toInt + ((m.1 70 16).toInt + K) ≤ (m.1 70 8).toInt := p.2.2.2.2.2.1
          show (m.1 73 t).toInt + ((m.1 70 16).toInt - 1 + K + 1) ≤ (m.1 70 8).toInt
          omega), g1⟩
        have bs : xB m = zbc (m.1 77) (((m.1 70 16).toInt).toNat - 1) + (if m.1 77 (((m.1 70 16).toInt).toNat - 1) = 12 ∨ m.1 77 (((m.1 70 16).toInt).toNat - 1) = 13 then 1 else 0) := by
          unfold xB
          rw [show ((m.1 70 16).toInt).toNat = (((m.1 70 16).toInt).toNat - 1) + 1 by omega]
          rfl
        have gm : ((xB m + 1 : Nat) : Int) ≤ (m.1 70 12).toInt := p.2.2.2.2.2.2.2.2
        have st : zst (m.1 77 (((m.1 70 16).toInt).toNat - 1) + 16 * 0) (xB m + 1) = some (zbc (m.1 77) (((m.1 70 16).toInt).toNat - 1) + 1) := by
          rcases cc with cc | cc | cc
          · rw [cc] at bs ⊢
            rw [if_neg (by decide)] at bs
            unfold zst zs0
            rw [if_pos (by decide), if_neg (by decide), if_neg (by decide), if_pos (by decide), if_pos (by omega), bs]
          · rw [cc] at bs ⊢
            rw [if_pos (by decide)] at bs
            rw [zst_b (by decide) (by decide) (by decide) (by decide) (by omega), bs]
            rfl
          · rw [cc] at bs ⊢
            rw [if_pos (by decide)] at bs
            rw [zst_b (by decide) (by decide) (by decide) (by decide) (by omega), bs]
            rfl
        have gd : ((zbc (m.1 77) (((m.1 70 16).toInt).toNat - 1) + 1 : Nat) : Int) ≤ ((xu m 70 16 (m.1 70 16 - 1)).1 70 12).toInt := by
          show _ ≤ (m.1 70 12).toInt
          omega
        refine xP_b (P172 (F := F) (K := (m.1 70 16).toInt - 1 + K) p1 (by omega) st gd) (fun _ m2 q => ?_)
        obtain ⟨q1, q2, q3⟩ := q
        have x1 : xq t xME m (xu m 70 16 (m.1 70 16 - 1)) := ⟨hT1, f1, Int.le_refl _, p.2.2.1, Int.le_refl _, Int.le_refl _, fun _ _ => rfl⟩
        have x2 : xq t xME m m2 := xq_t rfl x1 (xq_l (by decide) q1)
        have o2 : (m2.1 70 16).toInt = (m.1 70 16).toInt - 1 := by rw [q1.2.1.2 70 16 rfl]; exact o1
        have a2 : m2.1 77 = m.1 77 := funext fun j => x2.2.1.2 77 j rfl
        have n2 : m2.1 70 8 = m.1 70 8 := x2.2.1.2 70 8 rfl
        have B2 : xB m2 = zbc (m.1 77) (((m.1 70 16).toInt).toNat - 1) := by
          unfold xB
          rw [a2, o2]
          congr 1
          omega
        have p2 : xpr t b (xB m2 + 1) ((m2.1 70 16).toInt + K) m2 := xpr_q p rfl rfl (by omega) x2 (by rw [B2]; exact q2) (by rw [o2]; exact q3)
        have fin : ∀ {m3 : xS}, xq t xME m m3 → (m3.1 70 8).toInt = (m.1 70 8).toInt → m3.1 77 = m.1 77 → (m3.1 70 16).toInt = (m.1 70 16).toInt - 1 → xpr t b (xB m3 + 1) ((m3.1 70 16).toInt + K) m3 → xP (D176_0 F f l m3) (fun _ m' => xq t xME m m' ∧ (m'.1 70 8).toInt = (m.1 70 8).toInt ∧ xpr t b (xB m' + 1) ((m'.1 70 16).toInt + K) m' ∧ (∀ k : Nat, (k : Int) < (m.1 70 16).toInt → m.1 77 k = 91 → (k : Int) < (m'.1 70 16).toInt) ∧ ((m'.1 70 16).toInt ≤ 0 ∨ (zsn (m.1 77 (((m'.1 70 16).toInt).toNat - 1))).toInt < l.toInt)) := by
          intro m3 x3 n3 a3 o3 p3
          refine xP_m (P176_0 hl hK f p3 (by omega)) (fun _ m4 q => ?_)
          obtain ⟨r1, r2, r3, r4, r5⟩ := q
          rw [a3] at r4 r5
          refine ⟨xq_t rfl x3 r1, by omega, r3, fun k h1 h2 => r4 k ?_ h2, r5⟩
          by_cases z : (k : Int) < (m3.1 70 16).toInt
          · exact z
          · exfalso
            have z2 : k = ((m.1 70 16).toInt).toNat - 1 := by omega
            rw [← z2, h2] at cc
            exact absurd cc (by decide)
        dsimp only
        refine xP_g (xib_t (by omega) (by omega)) (xP_i (fun _ => fin x2 (by rw [n2]) a2 o2 p2) (fun _ => ?_))
        have hT3 : xT (xu m2 70 13 (m2.1 70 13 - 1)) := xT_c p2.2.1 (i := 70) (j := 13) (lo := -2147483648) (hi := 2147483647) rfl (y32 _).1 (by have := (y32 (m2.1 70 13 - 1)).2; omega)
        have x3 : xq t xME m2 (xu m2 70 13 (m2.1 70 13 - 1)) := ⟨hT3, xfr_u rfl, Int.le_refl _, p2.2.2.1, Int.le_refl _, Int.le_refl _, fun _ _ => rfl⟩
        refine fin (xq_t rfl x2 x3) (by show (m2.1 70 8).toInt = (m.1 70 8).toInt; rw [n2]) (by show m2.1 77 = m.1 77; exact a2) (by show (m2.1 70 16).toInt = _; exact o2) ⟨p2.1, hT3, p2.2.2.1, p2.2.2.2.1, p2.2.2.2.2.1, p2.2.2.2.2.2.1, p2.2.2.2.2.2.2⟩
theorem P176 {l : Int32} (hF : 500 ≤ F) (hl : 1 ≤ l.toInt) (hK : 0 ≤ K) (p : xpr t b (xB m + 1) ((m.1 70 16).toInt + K) m) : xP (D176 F l m) (fun _ m' => xq t xME m m' ∧ (m'.1 70 8).toInt = (m.1 70 8).toInt ∧ xpr t b (xB m' + 1) ((m'.1 70 16).toInt + K) m' ∧ (∀ k : Nat, (k : Int) < (m.1 70 16).toInt → m.1 77 k = 91 → (k : Int) < (m'.1 70 16).toInt) ∧ ((m'.1 70 16).toInt ≤ 0 ∨ (zsn (m.1 77 (((m'.1 70 16).toInt).toNat - 1))).toInt < l.toInt)) := by
  have bo := xT16 p.2.1
  exact P176_0 hl hK F p (by omega)
/-- opens -/
theorem P174 {w : Int32} (p : xpr t b D ((m.1 70 16).toInt) m) (lt : (m.1 70 8).toInt < (m.1 70 1).toInt) (hw : ¬ (w = 12 ∨ w = 13)) : xP (D174 F w m) (fun v m' => xT m' ∧ xfr xMO m m' ∧ ((v = 0 ∧ 1 ≤ (m'.1 70 9).toInt) ∨ (v = 1 ∧ xB m' = xB m ∧ (m'.1 70 16).toInt = (m.1 70 16).toInt + 1))) := by
  have bb := xT8 p.2.1
  have bo := xT16 p.2.1
  have sl : (m.1 73 t).toInt + (m.1 70 16).toInt ≤ (m.1 70 8).toInt := p.2.2.2.2.2.1
  have bl : 0 ≤ (m.1 73 t).toInt := (p.2.1 73 t _ (xbn_a (k := 0) (n := 7) (ec := 11) (by decide) rfl (by decide) (by have := p.1; omega))).1
  unfold D174
  refine xP_i (fun _ => xP_g (xib_t (by omega) (by omega)) ?_) (fun _ => ?_)
  · have e1 : (m.1 70 16 + 1).toInt = (m.1 70 16).toInt + 1 := xa1 (by show _ ≤ _ + (1 : Int); omega) (by show _ + (1 : Int) ≤ _; omega)
    have e2 : (m.1 70 16).toNatClampNeg = ((m.1 70 16).toInt).toNat := rfl
    rw [e2]
    have h1 : xT (xu m 70 13 (m.1 70 13 + 1)) := xT_c p.2.1 (i := 70) (j := 13) (lo := -2147483648) (hi := 2147483647) rfl (y32 _).1 (by have := (y32 (m.1 70 13 + 1)).2; omega)
    have h2 : xT (xu (xu m 70 13 (m.1 70 13 + 1)) 77 ((m.1 70 16).toInt).toNat w) := xT_c h1 (lo := -2147483648) (hi := 2147483647) (xbn_a (k := 0) (n := 400) (ec := 0) (by decide) rfl (by decide) (by omega)) (y32 _).1 (by have := (y32 w).2; omega)
    have h3 : xT (xu (xu (xu m 70 13 (m.1 70 13 + 1)) 77 ((m.1 70 16).toInt).toNat w) 70 16 (m.1 70 16 + 1)) := xT_c h2 (i := 70) (j := 16) rfl (by omega) (by omega)
    have o3 : ((xu (xu (xu m 70 13 (m.1 70 13 + 1)) 77 ((m.1 70 16).toInt).toNat w) 70 16 (m.1 70 16 + 1)).1 70 16).toInt = (m.1 70 16).toInt + 1 := by rw [xu_s]; exact e1
    refine xP_r ⟨h3, xfr_t (xfr_t (xfr_u rfl) (xfr_u rfl)) (xfr_u rfl), Or.inr ⟨rfl, ?_, o3⟩⟩
    unfold xB
    rw [o3, show ((m.1 70 16).toInt + 1).toNat = ((m.1 70 16).toInt).toNat + 1 by omega]
    have a3 : ∀ j, (xu (xu (xu m 70 13 (m.1 70 13 + 1)) 77 ((m.1 70 16).toInt).toNat w) 70 16 (m.1 70 16 + 1)).1 77 j = if j = ((m.1 70 16).toInt).toNat then w else m.1 77 j := fun j => by
      refine (xu_o (fun z => by omega)).trans ?_
      by_cases z : j = ((m.1 70 16).toInt).toNat
      · rw [if_pos z, z, xu_s]
      · rw [if_neg z]
        exact (xu_o (fun y => z y.2)).trans (xu_o (fun y => by omega))
    show zbc _ _ + _ = _
    rw [a3, if_pos rfl, if_neg hw]
    exact zbc_c (fun j hj => by rw [a3, if_neg (by omega)])
  · refine xP_b (P163 (F := F) (k := 2) (a := m.1 70 8) p.2.1 ⟨by decide, by decide⟩ ⟨by omega, by omega⟩) (fun v m1 q => ?_)
    obtain ⟨q1, q2, q3, q4⟩ := q
    dsimp only
    rw [q1]
    exact xP_g (by decide) (xP_r ⟨q2, xfr_l (by decide) q3, Or.inl ⟨rfl, q4⟩⟩)
/-- where no blank stands, see stays -/
theorem P164i (h : xT m) (hF : 1 ≤ F) (lt : (m.1 70 8).toInt < (m.1 70 1).toInt) (nb : m.1 71 (m.1 70 8).toNatClampNeg ≠ 32) : ∃ v, D164 F m = some (v, m) := by
  have bb := xT8 h
  obtain ⟨f, rfl⟩ : ∃ f, F = f + 1 := ⟨F - 1, by omega⟩
  have c1 : zcmp .ge (m.1 70 8) (m.1 70 1) = false := by
    cases hz : zcmp .ge (m.1 70 8) (m.1 70 1) with
    | false => rfl
    | true =>
      have z : (m.1 70 1).toInt ≤ (m.1 70 8).toInt := zt hz
      omega
  have c2 : zcmp .ne (m.1 71 (m.1 70 8).toNatClampNeg) 32 = true := decide_eq_true nb
  have ib : xib (m.1 70 8) 400 = true := xib_t (by omega) (by omega)
  refine ⟨m.1 71 (m.1 70 8).toNatClampNeg &&& 255, ?_⟩
  show D164_0 (f + 1) (f + 1) m = _
  unfold D164_0
  rw [if_neg (by rw [c1]; decide), if_pos ib, if_pos c2]
  unfold D164_38
  rw [if_neg (by rw [c1]; decide), if_pos ib]
theorem P167i {w : Int64} (hF : 500 ≤ F) (h : xT m) (lt : (m.1 70 8).toInt < (m.1 70 1).toInt) (nb : m.1 71 (m.1 70 8).toNatClampNeg ≠ 32) : xP (D167 F w m) (fun v m' => m' = m ∧ (v = 0 ∨ (v = 1 ∧ xlt m 97 122 (m.1 70 8)))) := by
  have bb := xT8 h
  obtain ⟨v, e⟩ := P164i (F := F) h (by omega) lt nb
  unfold D167
  rw [e]
  show xP (D167_10 F F w 0 0 m) _
  exact P167_10 F h (Int.le_refl (0 : Int)) (by show _ + (0 : Int) ≤ _; omega) (by show _ - (0 : Int) < _; omega) (fun z => absurd z (by decide))
theorem xlt_nb (h : xlt m 97 122 (m.1 70 8)) : m.1 71 (m.1 70 8).toNatClampNeg ≠ 32 := fun z => by
  have := h.2.1
  rw [z] at this
  exact absurd this (by decide)
/-- isInside -/
theorem P182_2 : ∀ (f : Nat) {k : Int32} {m : xS}, xT m → 0 ≤ k.toInt → k.toInt ≤ (m.1 70 16).toInt → (m.1 70 16).toInt - k.toInt < f → xP (D182_2 F f k m) (fun v m' => m' = m ∧ (v = 0 ∨ (v = 1 ∧ ∃ j : Nat, (j : Int) < (m.1 70 16).toInt ∧ m.1 77 j = 91)))
  | 0, k, m, h, h1, h2, h3 => by omega
  | f + 1, k, m, h, h1, h2, h3 => by
    have bo := xT16 h
    unfold D182_2
    refine xP_i (fun _ => xP_r ⟨rfl, Or.inl rfl⟩) (fun c => ?_)
    have c : ¬ (m.1 70 16).toInt ≤ k.toInt := zf c
    have e1 : (k + Int32.ofInt 1).toInt = k.toInt + 1 := xa1 (by show _ ≤ _ + (1 : Int); omega) (by show _ + (1 : Int) ≤ _; omega)
    refine xP_g (xib_t h1 (by omega)) (xP_i (fun _ => P182_2 f h (by omega) (by omega) (by omega)) (fun c2 => xP_r ⟨rfl, Or.inr ⟨rfl, k.toNatClampNeg, ?_, zne c2⟩⟩))
    show (k.toInt.toNat : Int) < _
    omega
theorem P182 (hF : 500 ≤ F) (h : xT m) : xP (D182 F m) (fun v m' => m' = m ∧ (v = 0 ∨ (v = 1 ∧ ∃ j : Nat, (j : Int) < (m.1 70 16).toInt ∧ m.1 77 j = 91))) := by
  have bo := xT16 h
  exact P182_2 F h (Int.le_refl (0 : Int)) bo.1 (by show _ - (0 : Int) < _; omega)
/-- fact -/
def xVT (t b : Nat) (m : xS) (v : Int32) (m' : xS) : Prop := xq t xMT m m' ∧ ((v = 0 ∧ 1 ≤ (m'.1 70 9).toInt) ∨ (v = 1 ∧ xpr t b (xB m' + 1) ((m'.1 70 16).toInt) m'))
theorem xopn {w : Int32} {g : xS → Option (Int32 × xS)} (p : xpr t b (xB m) ((m.1 70 16).toInt) m) (lt : (m.1 70 8).toInt < (m.1 70 1).toInt) (hw : ¬ (w = 12 ∨ w = 13)) (hg : ∀ m1, xT m1 → xfr xMO m m1 → xpr t b (xB m1) ((m1.1 70 16).toInt - 1) m1 → (m1.1 70 8).toInt = (m.1 70 8).toInt → xP (g m1) (xVT t b m)) : xP ((D174 F w m).bind fun q => if zcmp .ne q.1 0 = true then g q.2 else some (0, q.2)) (xVT t b m) := by
  refine xP_b (P174 p lt hw) (fun v m1 q => ?_)
  obtain ⟨q1, q2, q3⟩ := q
  have e8 : m1.1 70 8 = m.1 70 8 := q2.2 70 8 rfl
  have e1 : m1.1 70 1 = m.1 70 1 := q2.2 70 1 rfl
  have x1 : xq t xMT m m1 := xq_o q1 q2 (by rw [e8]; exact Int.le_refl _) (by rw [e8]; exact p.2.2.1) (by decide) (fun _ => ⟨rfl, rfl⟩) rfl
  dsimp only
  refine xP_i (fun c => ?_) (fun c => ?_)
  · have c : v ≠ 0 := znet c
    obtain ⟨q4, q5⟩ : xB m1 = xB m ∧ (m1.1 70 16).toInt = (m.1 70 16).toInt + 1 := by
      rcases q3 with q3 | q3
      · exact absurd q3.1 c
      · exact q3.2
    refine hg m1 q1 q2 ?_ (by rw [e8])
    have p1 : xpr t b (xB m) ((m.1 70 16).toInt) m1 := xpr_f p q1 q2 (by rw [e8]; exact Int.le_refl _) (by rw [e8]; exact p.2.2.1) (fun _ => ⟨rfl, rfl⟩) (by rw [q2.2 70 12 rfl]; exact Int.le_refl _) rfl rfl
    rw [q4, q5, show (m.1 70 16).toInt + 1 - 1 = (m.1 70 16).toInt by omega]
    exact p1
  · have c : v = 0 := zne c
    refine xP_r ⟨x1, Or.inl ⟨rfl, ?_⟩⟩
    rcases q3 with q3 | q3
    · exact q3.2
    · rw [c] at q3
      exact absurd q3.1 (by decide)
theorem xVT_t {v : Int32} {m2 : xS} (x : xq t xMT m m') (q : xVT t b m' v m2) : xVT t b m v m2 := ⟨xq_t rfl x q.1, q.2⟩
theorem P181_2 (hF : 500 ≤ F) : ∀ (f : Nat) {k : Int32} {m : xS}, xpr t b (xB m) ((m.1 70 16).toInt) m → (k = 0 ∨ k = 1) → (m.1 70 1).toInt - (m.1 70 8).toInt + k.toInt < f → xP (D181_2 F f k m) (xVT t b m)
  | 0, k, m, p, hk, hf => by
    have := p.2.2.1
    rcases hk with rfl | rfl
    · have hf : (m.1 70 1).toInt - (m.1 70 8).toInt + (0 : Int) < 0 := hf
      omega
    · have hf : (m.1 70 1).toInt - (m.1 70 8).toInt + (1 : Int) < 0 := hf
      omega
  | f + 1, k, m, p, hk, hf => by
    unfold D181_2 D181_72
    refine xP_i (fun c => ?_) (fun c => ?_)
    · refine xP_b (P180 hF p) (fun v m1 q => ?_)
      obtain ⟨q1, q2⟩ := q
      obtain ⟨b1, b2⟩ := xB_f q1.2.1 (fun _ => rfl) rfl
      have x1 : xq t xMT m m1 := xq_l (by decide) q1
      dsimp only
      rcases q2 with q2 | q2
      · rw [q2.1]
        exact xP_g (by decide) (xP_r ⟨x1, Or.inl ⟨rfl, q2.2⟩⟩)
      · rw [q2.1]
        refine xP_g (by decide) (xP_r ⟨x1, Or.inr ⟨rfl, ?_⟩⟩)
        rw [b1, b2]
        exact xpr_q p rfl rfl p.2.2.2.2.1 q1 q2.2.1 q2.2.2
    · have k1 : k = 1 := hk.resolve_left (zneq c)
      subst k1
      have hf : (m.1 70 1).toInt - (m.1 70 8).toInt + (1 : Int) < ((f + 1 : Nat) : Int) := hf
      refine xP_b (P164 hF p.2.1 p.2.2.1) (fun v1 m1 q => ?_)
      obtain ⟨q1, q2, q3, q4, q5⟩ := q
      have w1 : xWp m m1 := ⟨q1, q2, q3, q4⟩
      have p1 := xpr_w p w1
      have et1 : m1.1 70 1 = m.1 70 1 := q2.2 70 1 rfl
      obtain ⟨b1, b2⟩ := xB_f q2 (fun _ => rfl) rfl
      dsimp only
      have step : ∀ {v2 : Int32} {m2 : xS}, xWp m1 m2 → (v2 = 0 ∨ (v2 = 1 ∧ xlt m2 97 122 (m2.1 70 8))) → (v1 = 91 → m2 = m1) → xP (if zcmp .eq v2 0 = true then (if zcmp .ne v1 91 = true then D181_2 F f 0 m2 else (D174 F 91 m2).bind fun q52 => if zcmp .ne q52.1 0 = true then D181_2 F f 1 (xu q52.2 70 8 (q52.2.1 70 8 + 1)) else some (0, q52.2)) else (D174 F 11 m2).bind fun q26 => if zcmp .ne q26.1 0 = true then ((D168 F q26.2).bind fun q35 => D181_2 F f 1 q35.2) else some (0, q26.2)) (xVT t b m) := by
        intro v2 m2 w2 r hv
        have p2 := xpr_w p1 w2
        have et2 : m2.1 70 1 = m1.1 70 1 := w2.2.1.2 70 1 rfl
        obtain ⟨b3, b4⟩ := xB_f w2.2.1 (fun _ => rfl) rfl
        have x2 : xq t xMT m m2 := xq_t rfl (xq_l (by decide) (xq_w w1)) (xq_l (by decide) (xq_w w2))
        have pB : xpr t b (xB m2) ((m2.1 70 16).toInt) m2 := by
          rw [b3, b4, b1, b2]
          exact p2
        have n2 := w2.2.2.1
        refine xP_i (fun c2 => xP_i (fun c3 => ?_) (fun c3 => ?_)) (fun c2 => ?_)
        · refine xP_m (P181_2 hF f pB (Or.inl rfl) ?_) (fun v m' q => xVT_t x2 q)
          show (m2.1 70 1).toInt - (m2.1 70 8).toInt + (0 : Int) < f
          rw [et2, et1]
          omega
        · have e91 : v1 = 91 := zne c3
          have em := hv e91
          subst em
          have lt : (m2.1 70 8).toInt < (m2.1 70 1).toInt := by
            rw [et1]
            exact xsee q5 e91 (by decide)
          refine xP_m (xopn (F := F) (w := 91) (g := fun mm => D181_2 F f 1 (xu mm 70 8 (mm.1 70 8 + 1))) pB lt (by decide) (fun m3 s1 s2 s3 s4 => ?_)) (fun v m' q => xVT_t x2 q)
          have et3 : m3.1 70 1 = m2.1 70 1 := s2.2 70 1 rfl
          obtain ⟨w4, e4, p4⟩ := xpass s3 (by rw [et3, s4]; exact lt)
          have x3 : xq t xMT m2 m3 := xq_o s1 s2 (by omega) (by rw [s4]; exact pB.2.2.1) (by decide) (fun _ => ⟨rfl, rfl⟩) rfl
          have x4 : xq t xMT m2 (xu m3 70 8 (m3.1 70 8 + 1)) := xq_t rfl x3 (xq_l (by decide) (xq_w w4))
          have p5 : xpr t b (xB (xu m3 70 8 (m3.1 70 8 + 1))) ((xu m3 70 8 (m3.1 70 8 + 1)).1 70 16).toInt (xu m3 70 8 (m3.1 70 8 + 1)) := by
            have h : (m3.1 70 16).toInt - 1 + 1 = (m3.1 70 16).toInt := by omega
            rw [h] at p4
            exact p4
          refine xP_m (P181_2 hF f p5 (Or.inr rfl) ?_) (fun v m' q => xVT_t x4 q)
          rw [e4]
          show (m3.1 70 1).toInt - ((m3.1 70 8).toInt + 1) + (1 : Int) < f
          rw [et3, et1]
          omega
        · have v21 : v2 ≠ 0 := zneq c2
          have le : xlt m2 97 122 (m2.1 70 8) := by
            rcases r with r | r
            · exact absurd r v21
            · exact r.2
          have lt : (m2.1 70 8).toInt < (m2.1 70 1).toInt := le.1
          refine xP_m (xopn (F := F) (w := 11) (g := fun mm => (D168 F mm).bind fun q35 => D181_2 F f 1 q35.2) pB lt (by decide) (fun m3 s1 s2 s3 s4 => ?_)) (fun v m' q => xVT_t x2 q)
          have et3 : m3.1 70 1 = m2.1 70 1 := s2.2 70 1 rfl
          have le3 : xlt m3 97 122 (m3.1 70 8) := by
            rw [s2.2 70 8 rfl]
            exact xlt_f s2 rfl (fun _ => rfl) le
          refine xP_b (P168 hF s1 s3.2.2.1) (fun _ m4 u => ?_)
          obtain ⟨w4, u2⟩ := u
          have u2 := u2 le3
          have x3 : xq t xMT m2 m3 := xq_o s1 s2 (by omega) (by rw [s4]; exact pB.2.2.1) (by decide) (fun _ => ⟨rfl, rfl⟩) rfl
          have x4 : xq t xMT m2 m4 := xq_t rfl x3 (xq_l (by decide) (xq_w w4))
          obtain ⟨b5, b6⟩ := xB_f w4.2.1 (fun _ => rfl) rfl
          have et4 : m4.1 70 1 = m3.1 70 1 := w4.2.1.2 70 1 rfl
          have p4 := xpr_w s3 w4
          have p5 : xpr t b (xB m4) ((m4.1 70 16).toInt) m4 := by
            rw [b5, b6]
            refine xpr_q p4 (M := xMT) rfl rfl (by have := (xT16 s1).1; omega) (xq_r p4.2.1 p4.2.2.1) p4.2.2.2.2.2.2 ?_
            have l3 : (m3.1 73 t).toInt + ((m3.1 70 16).toInt - 1) ≤ (m3.1 70 8).toInt := s3.2.2.2.2.2.1
            have e73 : m4.1 73 t = m3.1 73 t := w4.2.1.2 73 t rfl
            rw [e73]
            omega
          dsimp only
          refine xP_m (P181_2 hF f p5 (Or.inr rfl) ?_) (fun v m' q => xVT_t x4 q)
          show (m4.1 70 1).toInt - (m4.1 70 8).toInt + (1 : Int) < f
          rw [et4, et3, et2, et1]
          omega
      by_cases h91 : v1 = 91
      · have lt : (m1.1 70 8).toInt < (m1.1 70 1).toInt := by
          rw [et1]
          exact xsee q5 h91 (by decide)
        have nb : m1.1 71 (m1.1 70 8).toNatClampNeg ≠ 32 := by
          rw [q2.2 71 _ rfl]
          intro z
          rcases q5 with q5 | q5
          · rw [et1] at lt
            have := q5.2
            omega
          · rw [z] at q5
            exact absurd (h91.symm.trans q5.1) (by decide)
        refine xP_b (P167i hF q1 lt nb) (fun v2 m2 r => ?_)
        obtain ⟨rfl, r⟩ := r
        exact step ⟨q1, xfr_r _ _, Int.le_refl _, p1.2.2.1⟩ r (fun _ => rfl)
      · refine xP_b (P167 hF q1 p1.2.2.1) (fun v2 m2 r => ?_)
        exact step r.1 r.2 (fun z => absurd z h91)
theorem P181 (hF : 500 ≤ F) (p : xpr t b (xB m) ((m.1 70 16).toInt) m) : xP (D181 F m) (xVT t b m) := by
  have bb := xT8 p.2.1
  exact P181_2 hF F p (Or.inr rfl) (by show _ + (1 : Int) < _; omega)
end XTST
