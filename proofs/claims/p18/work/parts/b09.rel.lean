/-! The relation of both memories, and what pairs of calls make of it. -/
/-- rows and numbers stay, as a heap is read anew -/
def xrw (m m' : xS) : Prop := (∀ i k n, xta i k n = true → m'.1 i = m.1 i) ∧ ∀ i a b, xti i a b = true → m'.1 i b = m.1 i b
/-- the same, but for one number of the reference's -/
def xrv (m m' : xS) : Prop := (∀ i k n, xta i k n = true → m'.1 i = m.1 i) ∧ ∀ i a b, xti i a b = true → ¬ (i = 70 ∧ b = 26) → m'.1 i b = m.1 i b
/-- what can be undone -/
def rMh (m : xS) : Prop := ∃ n h : Nat, (n < 20 ∧ h ≤ 20) ∧ (m.1 14 1 = Int32.ofNat n ∧ m.1 14 2 = Int32.ofNat h ∧ m.1 70 25 = Int32.ofNat h) ∧ rHx n h (m.1 80) (m.1 81) m.1
/-- images -/
def irow (w : Nat → Int32) (k : Nat) : Nat → Int32 := fun j => w (148 * k + j)
def rMi (m : xS) : Prop := ∀ k, k < 4 → m.1 87 k = m.1 42 k ∧ (m.1 42 k ≠ 0 → R32 (irow (m.1 85) k) (m.1 (37 + k)) ∧ vI9 (irow (m.1 85) k) ∧ m.1 86 k = m.1 41 k)
def rMx (m : xS) : Prop := (R32 (m.1 80) (m.1 10) ∧ vI9 (m.1 80)) ∧ rMh m ∧ rMi m ∧ m.1 70 23 = m.1 43 0
section PRM
variable {m m' m2 : xS} {F : Nat}
theorem xrw_of {B : zHp} (H : yH0 B) (m : xS) : xrw m (xof (xW B m)) := ⟨fun _ _ _ ht => xof_t H ht, fun _ _ _ ht => xof_f H ht⟩
theorem xrw_v (w : xrw m m') : xrv m m' := ⟨w.1, fun i a b h _ => w.2 i a b h⟩
theorem xrv_16 (w : xrv m m') {a : Nat} (h : 16 ≤ a ∧ a < 36) : m'.1 a = m.1 a := w.1 a 0 114 (xtS16_20 h)
theorem xrv_37 (w : xrv m m') {a : Nat} (h : 37 ≤ a ∧ a < 41) : m'.1 a = m.1 a := w.1 a 0 114 (xtS37_4 h)
theorem xrw_16 (w : xrw m m') {a : Nat} (h : 16 ≤ a ∧ a < 36) : m'.1 a = m.1 a := w.1 a 0 114 (xtS16_20 h)
theorem xrw_37 (w : xrw m m') {a : Nat} (h : 37 ≤ a ∧ a < 41) : m'.1 a = m.1 a := w.1 a 0 114 (xtS37_4 h)
theorem rHx_c {n h : Nat} {s w : Nat → Int32} {r r' : Nat → Nat → Int32} (H : rHx n h s w r) (e : ∀ a, 16 ≤ a → a < 36 → r' a = r a) : rHx n h s w r' := fun j hj => by
  rw [e _ (by omega) (by omega)]
  exact H j hj
theorem rMx_c (h80 : m'.1 80 = m.1 80) (h10 : m'.1 10 = m.1 10) (h14 : m'.1 14 1 = m.1 14 1 ∧ m'.1 14 2 = m.1 14 2) (h25 : m'.1 70 25 = m.1 70 25) (h81 : m'.1 81 = m.1 81) (hr : ∀ a, 16 ≤ a → a < 36 → m'.1 a = m.1 a) (hi : ∀ a, 37 ≤ a → a < 41 → m'.1 a = m.1 a) (h41 : m'.1 41 = m.1 41) (h42 : m'.1 42 = m.1 42) (h85 : m'.1 85 = m.1 85) (h86 : m'.1 86 = m.1 86) (h87 : m'.1 87 = m.1 87) (h23 : m'.1 70 23 = m.1 70 23) (h43 : m'.1 43 0 = m.1 43 0) (M : rMx m) : rMx m' := by
  obtain ⟨M1, ⟨n, h, M2, M3, M4⟩, M5, M6⟩ := M
  refine ⟨by rw [h80, h10]; exact M1, ⟨n, h, M2, by rw [h14.1, h14.2, h25]; exact M3, by rw [h80, h81]; exact rHx_c M4 hr⟩, fun k hk => ?_, by rw [h23, h43]; exact M6⟩
  rw [h42, h87, h41, h85, h86, hi _ (by omega) (by omega)]
  exact M5 k hk
theorem rMx_w (w : xrw m m') (M : rMx m) : rMx m' := rMx_c (w.1 80 0 148 (by decide)) (w.1 10 0 114 (by decide)) ⟨w.2 14 2 1 (by decide), w.2 14 2 2 (by decide)⟩ (w.2 70 11 25 (by decide)) (w.1 81 0 2480 (by decide)) (fun a h1 h2 => xrw_16 w ⟨h1, h2⟩) (fun a h1 h2 => xrw_37 w ⟨h1, h2⟩) (w.1 41 0 4 (by decide)) (w.1 42 2 4 (by decide)) (w.1 85 0 592 (by decide)) (w.1 86 0 4 (by decide)) (w.1 87 2 4 (by decide)) (w.2 70 11 23 (by decide)) (w.2 43 1 0 (by decide)) M
/-- an act, on both sides -/
theorem rMx_act {n h : Nat} {m1 : xS} {c' s' : Nat → Int32} (M : rMx m) (n20 : n < 20) (h20 : h ≤ 20) (e1 : m.1 14 1 = Int32.ofNat n) (e2 : m.1 14 2 = Int32.ofNat h) (R' : R32 s' c') (I' : vI9 s') (hs : ∀ k, 124 ≤ k → k < 148 → s' k = m.1 80 k) (w1 : xrv (xr (kpc m n h) 10 c') m1) (f : xfr xMA m1 m2) (q1 : m2.1 70 25 = Int32.ofNat (min 20 (h + 1))) (q2 : if h < 20 then (∀ j, j < 124 → m2.1 81 (124 * h + j) = m1.1 80 j) ∧ (∀ j, j < 124 * h → m2.1 81 j = m1.1 81 j) else (∀ j, j < 124 → m2.1 81 (124 * 19 + j) = m1.1 80 j) ∧ (∀ j, j < 2356 → m2.1 81 j = m1.1 81 (j + 124))) : rMx (xr m2 80 s') := by
  obtain ⟨M1, ⟨n0, h0, M2, M3, M4⟩, M5, M6⟩ := M
  have en : n0 = n := by
    have z := congrArg Int32.toInt (M3.1.symm.trans e1)
    rw [nJ (by omega), nJ (by omega)] at z
    omega
  have eh : h0 = h := by
    have z := congrArg Int32.toInt (M3.2.1.symm.trans e2)
    rw [nJ (by omega), nJ (by omega)] at z
    omega
  subst en
  subst eh
  -- rows behind both calls
  have o : ∀ a, a ≠ 70 → a ≠ 81 → a ≠ 80 → (xr m2 80 s').1 a = m1.1 a := fun a z1 z2 z3 => (xr_o z3).trans (funext fun j => f.2 a j (by
    unfold yinM xMA
    simp only [List.any_cons, List.any_nil, Bool.or_false, Bool.or_eq_false_iff]
    constructor
    · simp only [Bool.and_eq_false_iff, decide_eq_false_iff_not]
      omega
    · simp only [Bool.and_eq_false_iff, decide_eq_false_iff_not]
      omega))
  have o70 : ∀ j : Nat, j ≠ 25 → (xr m2 80 s').1 70 j = m1.1 70 j := fun j hj => (congrFun (xr_o (by decide)) j).trans (f.2 70 j (by
    unfold yinM xMA
    simp only [List.any_cons, List.any_nil, Bool.or_false, Bool.or_eq_false_iff]
    constructor
    · simp only [Bool.and_eq_false_iff, Bool.or_eq_false_iff, decide_eq_false_iff_not, beq_eq_false_iff_ne]
      omega
    · simp only [Bool.and_eq_false_iff, decide_eq_false_iff_not]
      omega))
  have k : ∀ a, a ≠ 10 → a ≠ 14 → a ≠ 16 + n0 → (xr (kpc m n0 h0) 10 c').1 a = m.1 a := fun a z1 z2 z3 => (xr_o z1).trans (kpc_r z2 z3)
  have e80 : m1.1 80 = m.1 80 := (w1.1 80 0 148 (by decide)).trans (k 80 (by decide) (by decide) (by omega))
  have e81 : m1.1 81 = m.1 81 := (w1.1 81 0 2480 (by decide)).trans (k 81 (by decide) (by decide) (by omega))
  refine ⟨?_, ⟨(n0 + 1) % 20, min 20 (h0 + 1), by omega, ⟨?_, ?_, ?_⟩, ?_⟩, fun a ha => ?_, ?_⟩
  · rw [xr_s, o 10 (by decide) (by decide) (by decide), w1.1 10 0 114 (by decide), xr_s]
    exact ⟨R', I'⟩
  · rw [o 14 (by decide) (by decide) (by decide), w1.2 14 2 1 (by decide) (by decide), xr_o (by decide)]
    exact kpc_1
  · rw [o 14 (by decide) (by decide) (by decide), w1.2 14 2 2 (by decide) (by decide), xr_o (by decide)]
    exact kpc_2
  · exact (congrFun (xr_o (by decide)) 25).trans q1
  · rw [xr_s, xr_o (show (81 : Nat) ≠ 80 by decide)]
    have l : 16 + n0 ≠ 10 := by omega
    refine rHx_c (r := fun a => if 16 ≤ a ∧ a < 36 then (xr m2 80 s').1 a else m.1 a) (rH_k (s := m.1 80) (w := m.1 81) (r := m.1) M4 M2.1 M2.2 ?_ M1.2 (fun a ha => ?_) hs ?_) (fun a a1 a2 => (if_pos ⟨a1, a2⟩).symm)
    · rw [if_pos (by omega), o (16 + n0) (by omega) (by omega) (by omega), xrv_16 w1 ⟨by omega, by omega⟩, xr_o l]
      exact R_c M1.1 (fun _ _ => rfl) (fun j hj => kpc_k M2.1 hj)
    · split
      · next z => rw [o a (by omega) (by omega) (by omega), xrv_16 w1 z, k a (by omega) (by omega) ha]
      · rfl
    · rw [e80, e81] at q2
      exact q2
  · rw [o 87 (by decide) (by decide) (by decide), o 42 (by decide) (by decide) (by decide), o 85 (by decide) (by decide) (by decide), o 86 (by decide) (by decide) (by decide), o 41 (by decide) (by decide) (by decide), o (37 + a) (by omega) (by omega) (by omega), w1.1 87 2 4 (by decide), w1.1 42 2 4 (by decide), w1.1 85 0 592 (by decide), w1.1 86 0 4 (by decide), w1.1 41 0 4 (by decide), xrv_37 w1 ⟨by omega, by omega⟩, k 87 (by decide) (by decide) (by omega), k 42 (by decide) (by decide) (by omega), k 85 (by decide) (by decide) (by omega), k 86 (by decide) (by decide) (by omega), k 41 (by decide) (by decide) (by omega), k (37 + a) (by omega) (by omega) (by omega)]
    exact M5 a ha
  · rw [o70 23 (by decide), o 43 (by decide) (by decide) (by decide), w1.2 70 11 23 (by decide) (by decide), w1.2 43 1 0 (by decide) (by decide), k 70 (by decide) (by decide) (by omega), k 43 (by decide) (by decide) (by omega)]
    exact M6
end PRM
abbrev MI (hp : zHp) : Prop := rI hp ∧ rMx (xof hp)
/-- a call of the class leaves a heap -/
def lH (Iv : zHp → Prop) (kc : Nat) (as : List Value) : Prop := ∀ hp, Iv hp → ∃ (x : Int32) (z : zHp), zCan 20 kc (.ref 0 :: as) hp (some (.int x), z) ∧ yH0 z
theorem eH {n1 : Nat} {sp1 : ySp} (T1 : yTs (yEA yAr) n1 sp1) {na : Nat} {bl : List Nat} (c1 : (eOk 0 na bl sp1.2.2.1 && (decide (n1 ≤ 20) && (decide (na + 1 ≤ sp1.2.1) && sp1.2.2.2.1.all eQok))) = true) (ys : List Int32) (hl : ys.length = na) (hb : ∀ s ∈ bl, ∀ y, ys[s]? = some y → 0 ≤ y.toInt ∧ y.toInt ≤ 1) : lH rI sp1.1 (ys.map .int) := fun hp hI => by
  obtain ⟨x1, z1, a1, a2, -⟩ := eSp T1 c1 hI.1 hl hb
  exact ⟨x1, z1, a1, a2.1⟩
/-- a pair by runs over the memory -/
theorem eM {cm : Bool} {kc kr : Nat} {as : List Value} (P : lP rI kc kr as false) (Hc : lH rI kc as) {Dc Dr : xS → Option (Int32 × xS)} (Zc : ∀ {hp : zHp}, yH0 hp → ∀ {y : Int32 × xS}, Dc (xof hp) = some y → zCan 20 kc (.ref 0 :: as) (xW hp (xof hp)) (some (.int y.1), xW hp y.2)) (Zr : ∀ {hp : zHp}, yH0 hp → ∀ {y : Int32 × xS}, Dr (xof hp) = some y → zCan 20 kr (.ref 70 :: as) (xW hp (xof hp)) (some (.int y.1), xW hp y.2)) (K : ∀ hp : zHp, MI hp → xP (Dc (xof hp)) (fun v1 m1 => ∀ m1', xrw m1 m1' → xT m1' → xP (Dr m1') (fun v2 m2 => (cm = true → v1 = v2) ∧ rMx m2))) : lP MI kc kr as cm := fun hp hI => by
  obtain ⟨x1, x2, z1, z2, a1, a2, a3, a4, a5, a6, a7, -⟩ := P hp hI.1
  obtain ⟨y, hy, hQ⟩ := K hp hI
  have u := Zc hI.1.1.1 hy
  rw [xW_of] at u
  have u := zCan_u a3 u
  cases u
  obtain ⟨x3, z3, b1, b2⟩ := Hc hp hI.1
  have u := zCan_u a3 b1
  cases u
  obtain ⟨y2, hy2, hc, hM⟩ := hQ (xof (xW hp y.2)) (xrw_of hI.1.1.1 _) (xT_of b2)
  have u := Zr b2 hy2
  rw [xW_of] at u
  have u := zCan_u a5 u
  cases u
  exact ⟨_, _, _, _, a1, a2, a3, a4, a5, a6, ⟨a7, rMx_w (xrw_of b2 _) hM⟩, hc⟩
/-- where the relation looks -/
abbrev rMM : yM := [(10, 10, 1000), (14, 14, 1000), (16, 35, 1000), (37, 42, 1000), (43, 43, 1000), (70, 70, 23), (70, 70, 25), (80, 81, 1000), (85, 87, 1000)]
theorem yin_r {a b i : Nat} {j : Int} {M : yM} (h : (a, b, 1000) ∈ M) (h1 : a ≤ i) (h2 : i ≤ b) : yinM M i j = true := List.any_eq_true.mpr ⟨(a, b, 1000), h, by simp [h1, h2]⟩
theorem rMx_F {M : yM} {hp z : zHp} (f : yF M hp z) (h : ydj M rMM = true) (k : rMx (xof hp)) : rMx (xof z) := by
  have q : ∀ i j : Nat, yinM rMM i (j : Int) = true → (xof z).1 i j = (xof hp).1 i j := fun i j hj => eF f (ydj_ok h i j hj)
  exact rMx_c (funext fun j => q 80 j (yin_r (a := 80) (b := 81) (by decide) (by decide) (by decide))) (funext fun j => q 10 j (yin_r (a := 10) (b := 10) (by decide) (by decide) (by decide))) ⟨q 14 1 rfl, q 14 2 rfl⟩ (q 70 25 rfl) (funext fun j => q 81 j (yin_r (a := 80) (b := 81) (by decide) (by decide) (by decide))) (fun a h1 h2 => funext fun j => q a j (yin_r (a := 16) (b := 35) (by decide) h1 (by omega))) (fun a h1 h2 => funext fun j => q a j (yin_r (a := 37) (b := 42) (by decide) h1 (by omega))) (funext fun j => q 41 j (yin_r (a := 37) (b := 42) (by decide) (by decide) (by decide))) (funext fun j => q 42 j (yin_r (a := 37) (b := 42) (by decide) (by decide) (by decide))) (funext fun j => q 85 j (yin_r (a := 85) (b := 87) (by decide) (by decide) (by decide))) (funext fun j => q 86 j (yin_r (a := 85) (b := 87) (by decide) (by decide) (by decide))) (funext fun j => q 87 j (yin_r (a := 85) (b := 87) (by decide) (by decide) (by decide))) (q 70 23 rfl) (q 43 0 rfl) k
/-- a pair that leaves the relation's places alone -/
theorem eN {n1 n2 : Nat} {sp1 sp2 : ySp} (T1 : yTs (yEA yAr) n1 sp1) (T2 : yTs (yEA yAr) n2 sp2) {na : Nat} {bl : List Nat} (c1 : (eOk 0 na bl sp1.2.2.1 && (decide (n1 ≤ 20) && (decide (na + 1 ≤ sp1.2.1) && sp1.2.2.2.1.all eQok))) = true) (c2 : (eOk 70 na bl sp2.2.2.1 && (decide (n2 ≤ 20) && (decide (na + 1 ≤ sp2.2.1) && sp2.2.2.2.1.all eQok))) = true) (hM : (ydj sp1.2.2.2.2 r0M && ydj sp2.2.2.2.2 r0M) = true) (hN : (ydj sp1.2.2.2.2 rMM && ydj sp2.2.2.2.2 rMM) = true) (ys : List Int32) (hl : ys.length = na) (hb : ∀ s ∈ bl, ∀ y, ys[s]? = some y → 0 ≤ y.toInt ∧ y.toInt ≤ 1) : lP MI sp1.1 sp2.1 (ys.map .int) false := fun hp hI => by
  rw [Bool.and_eq_true] at hM hN
  obtain ⟨x1, z1, a1, a2, a3, -⟩ := eSp T1 c1 hI.1.1 hl hb
  obtain ⟨x2, z2, b1, b2, b3, -⟩ := eSp T2 c2 a2 hl hb
  exact ⟨x1, x2, z1, z2, eK0 hI.1.1.1, eK70 a2.1, a1, a3.1, b1, b3.1, ⟨⟨b2, r0_F b3 hM.2 (r0_F a3 hM.1 hI.1.2)⟩, rMx_F b3 hN.2 (rMx_F a3 hN.1 hI.2)⟩, fun h => by cases h⟩
