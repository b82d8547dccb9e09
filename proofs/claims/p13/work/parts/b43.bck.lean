/-! Calls of the reference that try and lay back. -/
def kow (m m' : xS) : Prop := (∀ i j, i ≠ 82 → i ≠ 83 → i ≠ 84 → ¬ (i = 70 ∧ (j = 20 ∨ j = 27 ∨ j = 30)) → m'.1 i j = m.1 i j) ∧ ∀ i j, i ≠ 70 → i ≠ 78 → i ≠ 79 → m'.2 i j = m.2 i j
theorem kow_r (m : xS) : kow m m := ⟨fun _ _ _ _ _ _ => rfl, fun _ _ _ _ _ => rfl⟩
theorem kow_t {a b c : xS} (h1 : kow a b) (h2 : kow b c) : kow a c := ⟨fun i j e1 e2 e3 e4 => (h2.1 i j e1 e2 e3 e4).trans (h1.1 i j e1 e2 e3 e4), fun i j e1 e2 e3 => (h2.2 i j e1 e2 e3).trans (h1.2 i j e1 e2 e3)⟩
theorem kow_m {a b : xS} (h : kmt a b) : kow a b := ⟨fun i j e1 e2 _ e4 => h.1 i j e1 e2 (fun y => e4 ⟨y.1, Or.inr y.2⟩), fun i j _ _ _ => by rw [h.2]⟩
theorem kow_row {a b : xS} (h : kow a b) {i : Nat} (e1 : i ≠ 70) (e2 : i ≠ 82) (e3 : i ≠ 83) (e4 : i ≠ 84) : b.1 i = a.1 i := funext fun j => h.1 i j e2 e3 e4 (fun y => e1 y.1)
theorem kow_rMx {m m' : xS} (k : kow m m') (M : rMx m) : rMx m' := rMx_c (kow_row k (by decide) (by decide) (by decide) (by decide)) (kow_row k (by decide) (by decide) (by decide) (by decide)) ⟨k.1 14 1 (by decide) (by decide) (by decide) (by decide), k.1 14 2 (by decide) (by decide) (by decide) (by decide)⟩ (k.1 70 25 (by decide) (by decide) (by decide) (by decide)) (kow_row k (by decide) (by decide) (by decide) (by decide)) (fun a h1 h2 => kow_row k (by omega) (by omega) (by omega) (by omega)) (fun a h1 h2 => kow_row k (by omega) (by omega) (by omega) (by omega)) (kow_row k (by decide) (by decide) (by decide) (by decide)) (kow_row k (by decide) (by decide) (by decide) (by decide)) (kow_row k (by decide) (by decide) (by decide) (by decide)) (kow_row k (by decide) (by decide) (by decide) (by decide)) (kow_row k (by decide) (by decide) (by decide) (by decide)) (k.1 70 23 (by decide) (by decide) (by decide) (by decide)) (k.1 43 0 (by decide) (by decide) (by decide) (by decide)) M
theorem kow_ruI {z : zHp} {m : xS} (H : yH0 z) (k : kow (xof z) m) (h : ruI z) : ruI (xW z m) := fun j hj => by
  rw [xof_f H (show xti 0 10 8 = true by decide), k.1 0 8 (by decide) (by decide) (by decide) (by decide)] at hj
  obtain ⟨o, C, r⟩ := h j hj
  refine ⟨o, ruC_d (xW_2 (fun b => congrFun (kow_row k (by decide) (by decide) (by decide) (by decide)) b) (fun b => k.2 13 b (by decide) (by decide) (by decide))) (xW_2 (fun b => congrFun (kow_row k (by omega) (by omega) (by omega) (by omega)) b) (fun b => k.2 _ b (by omega) (by omega) (by omega))) rfl C, ruR_o (fun l _ _ => ?_) (fun l _ _ => ?_) ?_ r⟩
  · rw [xof_t H (k := 0) (n := 2400) (by decide), kow_row k (by decide) (by decide) (by decide) (by decide)]
  · rw [xof_t H (k := 0) (n := 288) (by decide), kow_row k (by decide) (by decide) (by decide) (by decide)]
  · rw [xof_t H (k := 0) (n := 6) (by decide), kow_row k (by decide) (by decide) (by decide) (by decide)]
/-- the class by its frame, the reference laid back -/
theorem eW {n1 : Nat} {sp1 : ySp} (T1 : yTs (yEA yAr) n1 sp1) {na : Nat} {bl : List Nat} (c1 : (eOk 0 na bl sp1.2.2.1 && (decide (n1 ≤ 20) && (decide (na + 1 ≤ sp1.2.1) && sp1.2.2.2.1.all eQok))) = true) (hM : (ydj sp1.2.2.2.2 rMM && ydj sp1.2.2.2.2 ruM) = true) (hC : ydj sp1.2.2.2.2 r0M = true) (ys : List Int32) (hl : ys.length = na) (hb : ∀ s ∈ bl, ∀ y, ys[s]? = some y → 0 ≤ y.toInt ∧ y.toInt ≤ 1) {kr : Nat} (P : lP rI sp1.1 kr (ys.map .int) false) {Dr : xS → Option (Int32 × xS)} (Zr : ∀ {hp : zHp}, yH0 hp → ∀ {y : Int32 × xS}, Dr (xof hp) = some y → zCan 20 kr (.ref 70 :: ys.map .int) (xW hp (xof hp)) (some (.int y.1), xW hp y.2)) (K : ∀ hp : zHp, yH0 hp → rMx (xof hp) → ruI hp → ((xof hp).1 70 2).toInt = ((xof hp).1 0 8).toInt → xP (Dr (xof hp)) (fun _ m => kow (xof hp) m)) : lP MR sp1.1 kr (ys.map .int) false := fun hp hI => by
  rw [Bool.and_eq_true] at hM
  obtain ⟨x1, x2, z1, z2, a1, a2, a3, a4, a5, a6, a7, -⟩ := P hp hI.1.1
  obtain ⟨x3, w1, b1, b2, b3, -⟩ := eSp T1 c1 hI.1.1.1 hl hb
  have u := zCan_u a3 b1
  cases u
  have M1 := rMx_F b3 hM.1 hI.1.2
  have U1 := ruI_F hI.1.1.1.1 b3 hM.2 hI.2
  have e08 : (xof z1).1 0 8 = (xof hp).1 0 8 := eF b3 (ydj_ok hM.2 0 8 rfl)
  have e702 : ((xof z1).1 70 2).toInt = ((xof z1).1 0 8).toInt := by
    have q1 : (xof z1).1 70 2 = (xof hp).1 70 2 := eF b3 (ydj_ok hC 70 2 rfl)
    rw [q1, e08]
    exact hI.1.1.2.2.1
  obtain ⟨y, hy, hk⟩ := K z1 b2.1 M1 U1 e702
  have u := Zr b2.1 hy
  rw [xW_of] at u
  have u := zCan_u a5 u
  cases u
  exact ⟨_, _, _, _, a1, a2, a3, a4, a5, a6, ⟨⟨a7, rMx_w (xrw_of b2.1 _) (kow_rMx hk M1)⟩, kow_ruI b2.1 hk U1⟩, fun h => by cases h⟩
section PBCK
variable {s : Nat → Int32} {m : xS} {F : Nat}
/-- kept, tried, laid back -/
theorem kow_b (hF : 500 ≤ F) {s2 c : Nat → Int32} {m3 : xS} (es : m.1 80 = s) (hc : ∀ j, j < 124 → c j = m.1 80 j) (k : kmt (xr (xr m 84 c) 80 s2) m3) (h2 : ∀ j, 124 ≤ j → s2 j = s j) : D260 F m3 = some ((), xr m3 80 s) ∧ kow m (xr m3 80 s) := by
  have r84 : ∀ j, m3.1 84 j = c j := fun j => (k.1 84 j (by decide) (by decide) (fun y => absurd y.1 (by decide))).trans (by rw [xr_o (by decide), xr_s])
  have r80 : ∀ j, m3.1 80 j = s2 j := fun j => (k.1 80 j (by decide) (by decide) (fun y => absurd y.1 (by decide))).trans (by rw [xr_s])
  refine ⟨r260 hF (fun j hj => by rw [r84, hc j hj, es]) (fun j hj => by rw [r80, h2 j hj]), fun i j e1 e2 e3 e4 => ?_, fun i j _ _ _ => by show m3.2 i j = _; rw [k.2]; rfl⟩
  by_cases z : i = 80
  · subst z
    rw [xr_s, es]
  · rw [xr_o z, k.1 i j e1 e2 (fun y => e4 ⟨y.1, Or.inr y.2⟩), xr_o z, xr_o e3]
theorem P261_37 (hF : 120000 ≤ F) (I : vI s) {t : Nat} (ht : (t : Int) < (s 2).toInt) {v2 : Int32} {m0 : xS} : ∀ (f : Nat) {m : xS} {h : Nat} {v3 v4 : Int32}, m.1 80 = s → kow m0 m → (h : Int) ≤ (s 0).toInt → 7 - h < f → xP (D261_37 F f (Int32.ofNat t) v2 v3 v4 (Int32.ofNat h) m) (fun _ m' => kow m0 m') := by
  have n6 := I_n6 I
  have t6 : t < 6 := by have := I_nt I; omega
  intro f
  induction f with
  | zero => intro m h v3 v4 _ _ _ l; omega
  | succ f ih =>
    intro m h v3 v4 es k hh l
    have eh := nJ (n := h) (by omega)
    unfold D261_37
    rw [es]
    refine xP_i (fun _ => xP_i (fun _ => xP_r k) (fun _ => xP_r k)) (fun cc => ?_)
    have cc : ¬ (s 0).toInt ≤ (Int32.ofNat h).toInt := of_decide_eq_false (zc.symm.trans cc)
    have nx : ∀ {m2 : xS} {v3' v4' : Int32}, m2.1 80 = s → kow m0 m2 → xP (D261_101 F (D261_37 F f) (Int32.ofNat t) v2 v3' v4' (Int32.ofNat h) m2) (fun _ m' => kow m0 m') := fun {m2 v3' v4'} h2 h3 => by
      unfold D261_101
      rw [(o1 (n := h) (by omega)).2.2]
      exact ih h2 h3 (by omega) (by omega)
    refine xP_bp (r208 (w := 0) rfl rfl t6 (by decide)) (xP_i (fun _ => ?_) (fun _ => nx es k))
    obtain ⟨c, z1, z2⟩ := r259 (F := F) (m := m) (by omega)
    have J := I_gv (v := Int32.ofNat h) I ht (by omega) (by omega)
    have y1 := r231 (F := F) (m := xr m 84 c) (t := t) (v1 := Int32.ofNat t) (v2 := Int32.ofNat h) rfl t6
    rw [xr_o (by decide), es] at y1
    refine xP_bp z1 (xP_bp y1 (xP_b (P256 hF J (xr_s _ _ _)) (fun v m3 k3 => ?_)))
    obtain ⟨w1, w2⟩ := kow_b (F := F) (by omega) es z2 k3 (fun j hj => pgv_o (by omega))
    exact xP_bp w1 (xP_i (fun _ => nx (xr_s _ _ _) (kow_t k w2)) (fun _ => nx (xr_s _ _ _) (kow_t k w2)))
theorem P261 (hF : 120000 ≤ F) (I : vI (m.1 80)) {y1 y2 : Int32} : xP (D261 F y1 y2 m) (fun _ m' => kow m m') := by
  have n2 := I_nt I
  have n0 := I_n0 I
  unfold D261
  refine xP_bp r206 (xP_i (fun _ => xP_r (kow_r m)) (fun c => ?_))
  have c : pin (m.1 80) 2 y1 = true := by
    rw [pB1] at c
    simpa using c
  obtain ⟨t, rfl, ht⟩ := pin_n c
  have t6 : t < 6 := by omega
  refine xP_bp (r158 (x := 0) (y := 1) rfl rfl) (xP_i (fun _ => ?_) (fun _ => xP_r (kow_r m)))
  refine xP_bp (r208 (w := 0) rfl rfl t6 (by decide)) (xP_b (P256 hF I rfl) (fun v m1 k1 => ?_))
  exact P261_37 hF I ht F (h := 0) (kmt_80 k1 rfl) (kow_m k1) (by omega) (by omega)
theorem pqu_k {a d j : Nat} (ha : a < 6) (hd : d < 6) (hj : 124 ≤ j) : pqu s a d j = s j := by
  unfold pqu
  rw [cup_o (by omega), cup_o (by omega)]
theorem P262_57 (hF : 120000 ≤ F) (I : vI s) {a : Nat} (ha : (a : Int) < (s 0).toInt) {v1 v2 : Int32} {g40 : Int32 → Int32 → Int32 → Int32 → Int32 → Int32 → xS → Option (Int32 × xS)} {Q : Int32 → xS → Prop} {m0 : xS} (K : ∀ v3 v4 v5 m', m'.1 80 = s → kow m0 m' → xP (g40 v1 v2 v3 v4 v5 (Int32.ofNat (a + 1)) m') Q) : ∀ (f : Nat) {m : xS} {b : Nat} {v3 v4 v5 : Int32}, m.1 80 = s → kow m0 m → (b : Int) ≤ (s 0).toInt → 7 - b < f → xP (D262_57 F g40 f v1 v2 v3 v4 v5 (Int32.ofNat a) (Int32.ofNat b) m) Q := by
  have n6 := I_n6 I
  intro f
  induction f with
  | zero => intro m b v3 v4 v5 _ _ _ l; omega
  | succ f ih =>
    intro m b v3 v4 v5 es k hb l
    have eb := nJ (n := b) (by omega)
    have a6 : a < 6 := by omega
    unfold D262_57
    rw [es]
    refine xP_i (fun _ => ?_) (fun cc => ?_)
    · rw [(o1 (n := a) (by omega)).2.2]
      exact K _ _ _ m es k
    · have cc : ¬ (s 0).toInt ≤ (Int32.ofNat b).toInt := of_decide_eq_false (zc.symm.trans cc)
      have b6 : b < 6 := by omega
      have nx : ∀ {m2 : xS} {v3' v4' v5' : Int32}, m2.1 80 = s → kow m0 m2 → xP (D262_141 F g40 (D262_57 F g40 f) v1 v2 v3' v4' v5' (Int32.ofNat a) (Int32.ofNat b) m2) Q := fun {m2 v3' v4' v5'} h2 h3 => by
        unfold D262_141
        rw [(o1 (n := b) (by omega)).2.2]
        exact ih h2 h3 (by omega) (by omega)
      have go : xP (D262_93 F g40 (D262_57 F g40 f) v1 v2 v3 v4 v5 (Int32.ofNat a) (Int32.ofNat b) m) Q := by
        unfold D262_93
        obtain ⟨c, z1, z2⟩ := r259 (F := F) (m := m) (by omega)
        have J := I_qu I a6 b6
        have y1 := r229 (F := F) (m := xr m 84 c) (a := a) (d := b) (v1 := Int32.ofNat a) (v2 := Int32.ofNat b) rfl rfl a6 b6
        rw [xr_o (by decide), es] at y1
        refine xP_bp z1 (xP_bp y1 (xP_b (P256 hF J (xr_s _ _ _)) (fun v m3 k3 => ?_)))
        obtain ⟨w1, w2⟩ := kow_b (F := F) (by omega) es z2 k3 (fun j hj => pqu_k a6 b6 hj)
        have n130 : ∀ {v8 : Int32}, xP (D262_130 F g40 (D262_57 F g40 f) v1 v2 v3 v4 v5 (Int32.ofNat a) (Int32.ofNat b) v8 (xr m3 80 s)) Q := fun {v8} => by
          unfold D262_130
          exact nx (xr_s _ _ _) (kow_t k w2)
        exact xP_bp w1 (xP_i (fun _ => n130) (fun _ => xP_i (fun _ => n130) (fun _ => nx (xr_s _ _ _) (kow_t k w2))))
      exact xP_bp (r210 rfl rfl a6 b6) (xP_i (fun _ => go) (fun _ => xP_bp (r210 rfl rfl b6 a6) (xP_i (fun _ => go) (fun _ => nx es k))))
theorem P262_40 (hF : 120000 ≤ F) (I : vI s) {v1 v2 : Int32} {m0 : xS} : ∀ (f : Nat) {m : xS} {a : Nat} {v3 v4 v5 : Int32}, m.1 80 = s → kow m0 m → (a : Int) ≤ (s 0).toInt → 7 - a < f → xP (D262_40 F f v1 v2 v3 v4 v5 (Int32.ofNat a) m) (fun _ m' => kow m0 m') := by
  have n6 := I_n6 I
  intro f
  induction f with
  | zero => intro m a v3 v4 v5 _ _ _ l; omega
  | succ f ih =>
    intro m a v3 v4 v5 es k ha l
    have ea := nJ (n := a) (by omega)
    unfold D262_40
    rw [es]
    refine xP_i (fun _ => xP_i (fun _ => xP_i (fun _ => xP_i (fun _ => xP_r k) (fun _ => xP_r k)) (fun _ => xP_r k)) (fun _ => xP_r k)) (fun cc => ?_)
    have cc : ¬ (s 0).toInt ≤ (Int32.ofNat a).toInt := of_decide_eq_false (zc.symm.trans cc)
    rw [show Int32.ofNat a + 1 = Int32.ofNat (a + 1) from xadd (a := a) (b := 1) (by omega)]
    exact P262_57 hF I (by omega) (fun v3 v4 v5 m' e1 k1 => ih e1 k1 (by omega) (by omega)) F es k (by omega) (by omega)
theorem P262 (hF : 120000 ≤ F) (I : vI (m.1 80)) {y1 : Int32} : xP (D262 F y1 m) (fun _ m' => kow m m') := by
  have n0 := I_n0 I
  unfold D262
  refine xP_bp r204 (xP_i (fun _ => xP_r (kow_r m)) (fun _ => xP_bp (r158 (x := 0) (y := 2) rfl rfl) (xP_i (fun _ => ?_) (fun _ => xP_r (kow_r m)))))
  refine xP_b (P256 hF I rfl) (fun v m1 k1 => ?_)
  exact P262_40 hF I F (a := 0) (kmt_80 k1 rfl) (kow_m k1) (by omega) (by omega)
theorem P271_2 (hF : 120000 ≤ F) (I : vI s) {h : Nat} (hh : (h : Int) < (s 0).toInt) {v2 : Int32} {m0 : xS} : ∀ (f : Nat) {m : xS} {g : Nat}, m.1 80 = s → kow m0 m → (g : Int) ≤ (s 0).toInt → 7 - g < f → xP (D271_2 F f (Int32.ofNat h) v2 (Int32.ofNat g) m) (fun _ m' => kow m0 m' ∧ m'.1 80 = s) := by
  have n6 := I_n6 I
  intro f
  induction f with
  | zero => intro m g _ _ _ l; omega
  | succ f ih =>
    intro m g es k hg l
    have eg := nJ (n := g) (by omega)
    unfold D271_2
    rw [es]
    refine xP_i (fun _ => xP_r ⟨k, es⟩) (fun cc => ?_)
    have cc : ¬ (s 0).toInt ≤ (Int32.ofNat g).toInt := of_decide_eq_false (zc.symm.trans cc)
    have g6 : g < 6 := by omega
    have h6 : h < 6 := by omega
    have nx : ∀ {m2 : xS}, m2.1 80 = s → kow m0 m2 → xP (D271_49 F (D271_2 F f) (Int32.ofNat h) v2 (Int32.ofNat g) m2) (fun _ m' => kow m0 m' ∧ m'.1 80 = s) := fun {m2} h2 h3 => by
      unfold D271_49
      rw [(o1 (n := g) (by omega)).2.2]
      exact ih h2 h3 (by omega) (by omega)
    refine xP_i (fun _ => ?_) (fun _ => nx es k)
    obtain ⟨c, z1, z2⟩ := r259 (F := F) (m := m) (by omega)
    have J := I_qu I h6 g6
    have e0 : pqu s h g 0 = s 0 := by
      unfold pqu
      rw [cup_o (by omega), cup_o (by omega)]
    have y1 := r229 (F := F) (m := xr m 84 c) (a := h) (d := g) (v1 := Int32.ofNat h) (v2 := Int32.ofNat g) rfl rfl h6 g6
    rw [xr_o (by decide), es] at y1
    refine xP_bp z1 (xP_bp y1 (xP_b (P270 hF J (by rw [e0]; exact hh) (xr_s _ _ _)) (fun v m3 k3 => ?_)))
    obtain ⟨w1, w2⟩ := kow_b (F := F) (by omega) es z2 k3 (fun j hj => pqu_k h6 g6 hj)
    exact xP_bp w1 (xP_i (fun _ => nx (xr_s _ _ _) (kow_t k w2)) (fun _ => xP_r ⟨kow_t k w2, xr_s _ _ _⟩))
theorem P272_25 (hF : 120000 ≤ F) (I : vI s) {v1 : Int32} {m0 : xS} : ∀ (f : Nat) {m : xS} {h : Nat} {v2 : Int32}, m.1 80 = s → kow m0 m → (h : Int) ≤ (s 0).toInt → 7 - h < f → xP (D272_25 F f v1 v2 (Int32.ofNat h) m) (fun _ m' => kow m0 m') := by
  have n6 := I_n6 I
  have n0 := I_n0 I
  intro f
  induction f with
  | zero => intro m h v2 _ _ _ l; omega
  | succ f ih =>
    intro m h v2 es k hh l
    have eh := nJ (n := h) (by omega)
    unfold D272_25
    rw [es]
    refine xP_i (fun _ => xP_r k) (fun cc => ?_)
    have cc : ¬ (s 0).toInt ≤ (Int32.ofNat h).toInt := of_decide_eq_false (zc.symm.trans cc)
    have q : xP (D271 F (Int32.ofNat h) v1 m) (fun _ m' => kow m0 m' ∧ m'.1 80 = s) := by
      unfold D271
      exact P271_2 hF I (by omega) F (g := 0) es k (by omega) (by omega)
    refine xP_b q (fun v m1 q1 => ?_)
    have nx : ∀ {w0 w1 : Int32}, xP (D272_52 F (D272_25 F f) v1 v2 (Int32.ofNat h) w0 w1 m1) (fun _ m' => kow m0 m') := fun {w0 w1} => by
      unfold D272_52
      rw [(o1 (n := h) (by omega)).2.2]
      exact ih q1.2 q1.1 (by omega) (by omega)
    exact xP_i (fun _ => nx) (fun _ => nx)
theorem P272 (hF : 120000 ≤ F) (I : vI (m.1 80)) {y1 : Int32} : xP (D272 F y1 m) (fun _ m' => kow m m') := by
  have n0 := I_n0 I
  unfold D272
  refine xP_bp r204 (xP_i (fun _ => xP_r (kow_r m)) (fun _ => xP_bp (r158 (x := 0) (y := 4) rfl rfl) (xP_i (fun _ => ?_) (fun _ => xP_r (kow_r m)))))
  exact P272_25 hF I F (h := 0) rfl (kow_r m) (by omega) (by omega)
end PBCK
theorem nOwner {y1 y2 : Int32} : lP MR 144 261 [.int y1, .int y2] false := eW (yt1225 yXx.1) (na := 2) (bl := []) (by decide +kernel) (by decide +kernel) (by decide +kernel) [y1, y2] rfl (fun s hs => by cases hs) e0_19 (Dr := D261 200000 y1 y2) (fun {_} H {_} h => Z261 H h (by decide)) (fun hp _ M _ _ => P261 (by decide) M.1.2.1)
theorem nBreaks {y1 : Int32} : lP MR 145 262 [.int y1] false := eW (yt1193 yXx.1) (na := 1) (bl := []) (by decide +kernel) (by decide +kernel) (by decide +kernel) [y1] rfl (fun s hs => by cases hs) e0_20 (Dr := D262 200000 y1) (fun {_} H {_} h => Z262 H h (by decide)) (fun hp _ M _ _ => P262 (by decide) M.1.2.1)
theorem nSafe {y1 : Int32} : lP MR 150 272 [.int y1] false := eW (yt861 yXx.1) (na := 1) (bl := []) (by decide +kernel) (by decide +kernel) (by decide +kernel) [y1] rfl (fun s hs => by cases hs) e0_25 (Dr := D272 200000 y1) (fun {_} H {_} h => Z272 H h (by decide)) (fun hp _ M _ _ => P272 (by decide) M.1.2.1)
