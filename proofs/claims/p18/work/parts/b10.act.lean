/-! The acts, as pairs of calls. -/
def rkp (m m2 : xS) (h : Nat) : Prop := xfr xMA m m2 ∧ m2.1 70 25 = Int32.ofNat (min 20 (h + 1)) ∧ (if h < 20 then (∀ j, j < 124 → m2.1 81 (124 * h + j) = m.1 80 j) ∧ (∀ j, j < 124 * h → m2.1 81 j = m.1 81 j) else (∀ j, j < 124 → m2.1 81 (124 * 19 + j) = m.1 80 j) ∧ (∀ j, j < 2356 → m2.1 81 j = m.1 81 (j + 124)))
section KACT
variable {m : xS} {F : Nat} {s : Nat → Int32}
theorem oT {α : Type} {c : Bool} {a b r : Option α} (h : c = true) (k : a = r) : (if c = true then a else b) = r := by
  rw [if_pos h]
  exact k
theorem oF {α : Type} {c : Bool} {a b r : Option α} (h : c = false) (k : b = r) : (if c = true then a else b) = r := by
  rw [h]
  exact k
theorem zeF {b : Bool} (h : b = true) : zcmp .eq (pB b) 0 = false := by rw [h]; decide
theorem zeT {b : Bool} (h : b = false) : zcmp .eq (pB b) 0 = true := by rw [h]; decide
theorem znT {b : Bool} (h : b = true) : zcmp .ne (pB b) 0 = true := by rw [h]; decide
theorem znF {b : Bool} (h : b = false) : zcmp .ne (pB b) 0 = false := by rw [h]; decide
theorem bF {b : Bool} (h : ¬ b = true) : b = false := by cases b; rfl; exact absurd rfl h
theorem tnI {t : Nat} {v : Int32} (h : v = Int32.ofNat t) (l : t < 2000) : v.toInt.toNat = t := by rw [h, nJ l]; exact Int.toNat_natCast t
/-- acts: class and reference decide alike, keep, and do alike -/
theorem kA {Dc Dr : xS → Option (Int32 × xS)} {p : (Nat → Int32) → Bool} {val : (Nat → Int32) → Int32} {act : (Nat → Int32) → Nat → Int32} {f : Int32} (C : ∀ (m : xS) (n h : Nat), xT m → R32 (m.1 80) (m.1 10) → vI (m.1 80) → n < 20 → h ≤ 20 → m.1 14 1 = Int32.ofNat n → m.1 14 2 = Int32.ofNat h → if p (m.1 80) = true then ∃ c', Dc m = some (val (m.1 80), xr (kpc m n h) 10 c') ∧ R32 (act (m.1 80)) c' ∧ vI (act (m.1 80)) ∧ (∀ k, 124 ≤ k → k < 148 → act (m.1 80) k = m.1 80 k) else Dc m = some (f, m)) (h9 : ∀ s, vI9 s → p s = true → (act s 4).toInt ≤ 999) (Rr : ∀ (m : xS) (h : Nat), xT m → vI9 (m.1 80) → h ≤ 20 → m.1 70 25 = Int32.ofNat h → if p (m.1 80) = true then xP (Dr m) (fun v m2 => v = val (m.1 80) ∧ ∃ m2a, rkp m m2a h ∧ m2 = xr m2a 80 (act (m.1 80))) else Dr m = some (f, m)) (m : xS) (hT : xT m) (M : rMx m) : xP (Dc m) (fun v1 m1 => ∀ m1', xrw m1 m1' → xT m1' → xP (Dr m1') (fun v2 m2 => (true = true → v1 = v2) ∧ rMx m2)) := by
  have M0 := M
  obtain ⟨⟨R, I⟩, ⟨n, h, ⟨n20, h20⟩, ⟨e1, e2, e3⟩, -⟩, -⟩ := M0
  have c := C m n h hT R I.1 n20 h20 e1 e2
  by_cases P : p (m.1 80) = true
  · rw [if_pos P] at c
    obtain ⟨c', k1, k2, k3, k4⟩ := c
    refine ⟨_, k1, fun m1' w t1 => ?_⟩
    have e80 : m1'.1 80 = m.1 80 := (w.1 80 0 148 (by decide)).trans ((xr_o (by decide)).trans (kpc_r (by decide) (by omega)))
    have e25 : m1'.1 70 25 = m.1 70 25 := (w.2 70 11 25 (by decide)).trans (congrFun ((xr_o (by decide)).trans (kpc_r (by decide) (by omega))) 25)
    have r := Rr m1' h t1 (by rw [e80]; exact I) h20 (e25.trans e3)
    rw [e80, if_pos P] at r
    obtain ⟨y, hy, q1, m2a, q2, q3⟩ := r
    refine ⟨y, hy, fun _ => q1.symm, ?_⟩
    rw [q3]
    exact rMx_act M n20 h20 e1 e2 k2 ⟨k3, h9 _ I P⟩ k4 (xrw_v w) q2.1 q2.2.1 q2.2.2
  · rw [if_neg P] at c
    refine ⟨_, c, fun m1' w t1 => ?_⟩
    have e80 : m1'.1 80 = m.1 80 := w.1 80 0 148 (by decide)
    have e25 : m1'.1 70 25 = m.1 70 25 := w.2 70 11 25 (by decide)
    have r := Rr m1' h t1 (by rw [e80]; exact I) h20 (e25.trans e3)
    rw [e80, if_neg P] at r
    exact ⟨_, r, fun _ => rfl, rMx_w w M⟩
theorem k10 {n h : Nat} (R : R32 s (m.1 10)) : R32 s ((kpc m n h).1 10) := by
  rw [kpc_r (by decide) (by omega)]
  exact R
theorem y80 {m2 : xS} (f : xfr xMA m m2) : m2.1 80 = m.1 80 := funext fun j => f.2 80 j (by unfold yinM; rfl)
-- lend
def pLd (s : Nat → Int32) (a1 a2 : Int32) : Bool := pin s 2 a1 && (pin s 0 a2 && pcl s a1.toInt.toNat a2.toInt.toNat)
theorem c131 {n hh : Nat} {a1 a2 : Int32} (hT : xT m) (R : R32 s (m.1 10)) (I : vI s) (n20 : n < 20) (h20 : hh ≤ 20) (e1 : m.1 14 1 = Int32.ofNat n) (e2 : m.1 14 2 = Int32.ofNat hh) : if pLd s a1 a2 = true then ∃ c', D131_0 F a1 a2 m = some (psh (pld s a1.toInt.toNat a2.toInt.toNat) a1.toInt.toNat 0, xr (kpc m n hh) 10 c') ∧ R32 (pld s a1.toInt.toNat a2.toInt.toNat) c' ∧ vI (pld s a1.toInt.toNat a2.toInt.toNat) ∧ (∀ k, 124 ≤ k → k < 148 → pld s a1.toInt.toNat a2.toInt.toNat k = s k) else D131_0 F a1 a2 m = some (-1, m) := by
  have nt := I_nt I
  have n6 := I_n6 I
  unfold pLd D131_0
  by_cases P1 : pin s 2 a1 = true
  · obtain ⟨t, ht, t2⟩ := pin_n P1
    by_cases P2 : pin s 0 a2 = true
    · obtain ⟨h, hh2, h2⟩ := pin_n P2
      rw [tnI ht (by omega), tnI hh2 (by omega), P1, P2, Bool.true_and, Bool.true_and]
      by_cases P3 : pcl s t h = true
      · rw [if_pos P3]
        have I' := I_ld I t2 h2 P3
        obtain ⟨c', k1, k2⟩ := a102_9 (m := kpc m n hh) (F := F) (k10 R) I ht hh2 t2 (by omega)
        have l2 : pld s t h 2 = s 2 := (pld_o (by omega) (by omega)).trans (pth_o (by omega))
        refine ⟨c', ?_, k2, I', fun k l1 l3 => (pld_o (by omega) (by omega)).trans (pth_o (by have := I.2.1 t t2; omega))⟩
        exact ob (c83_9 R) (oF (zeF P1) (ob (c85_9 R) (oF (zeF P2) (ob (c101_9 hT R I ht hh2 t2 (by omega)) (oT (znT P3) (ob (c16_9 e1 e2 n20 h20) (ob k1 (ob (c99_9 (s := pld s t h) (by rw [xr_s]; exact k2) I' ht (by rw [l2]; exact t2)) rfl))))))))
      · rw [if_neg P3]
        exact ob (c83_9 R) (oF (zeF P1) (ob (c85_9 R) (oF (zeF P2) (ob (c101_9 hT R I ht hh2 t2 (by omega)) (oF (znF (bF P3)) rfl)))))
    · rw [P1, bF P2, Bool.true_and, Bool.false_and, if_neg (by decide)]
      exact ob (c83_9 R) (oF (zeF P1) (ob (c85_9 R) (oT (zeT (bF P2)) rfl)))
  · rw [bF P1, Bool.false_and, if_neg (by decide)]
    exact ob (c83_9 R) (oT (zeT (bF P1)) rfl)
theorem r226 {hh : Nat} {a1 a2 : Int32} (hF : 3000 ≤ F) (hT : xT m) (I : vI (m.1 80)) (h20 : hh ≤ 20) (e3 : m.1 70 25 = Int32.ofNat hh) : if pLd (m.1 80) a1 a2 = true then xP (D226 F a1 a2 m) (fun v m2 => v = psh (pld (m.1 80) a1.toInt.toNat a2.toInt.toNat) a1.toInt.toNat 0 ∧ ∃ m2a, rkp m m2a hh ∧ m2 = xr m2a 80 (pld (m.1 80) a1.toInt.toNat a2.toInt.toNat)) else D226 F a1 a2 m = some (-1, m) := by
  have nt := I_nt I
  have n6 := I_n6 I
  unfold pLd D226
  by_cases P1 : pin (m.1 80) 2 a1 = true
  · obtain ⟨t, ht, t2⟩ := pin_n P1
    by_cases P2 : pin (m.1 80) 0 a2 = true
    · obtain ⟨h, hh2, h2⟩ := pin_n P2
      rw [tnI ht (by omega), tnI hh2 (by omega), P1, P2, Bool.true_and, Bool.true_and]
      by_cases P3 : pcl (m.1 80) t h = true
      · rw [if_pos P3]
        obtain ⟨⟨u, y⟩, hy, q1, q2⟩ := r220 hF hT e3 h20
        have e := y80 q2.1
        have k := r223 (F := F) (m := y) (by rw [e]; exact I) ht hh2 (by rw [e]; exact t2) (by omega)
        rw [e] at k
        refine ⟨(_, _), ob r206 (oF (zeF P1) (ob r205 (oF (zeF P2) (ob (r222 I ht hh2 t2 (by omega)) (oT (znT P3) (ob hy (ob k (ob (r214 ht (by omega)) rfl)))))))), ?_, y, q2, rfl⟩
        dsimp only
        rw [xr_s]
      · rw [if_neg P3]
        exact ob r206 (oF (zeF P1) (ob r205 (oF (zeF P2) (ob (r222 I ht hh2 t2 (by omega)) (oF (znF (bF P3)) rfl)))))
    · rw [P1, bF P2, Bool.true_and, Bool.false_and, if_neg (by decide)]
      exact ob r206 (oF (zeF P1) (ob r205 (oT (zeT (bF P2)) rfl)))
  · rw [bF P1, Bool.false_and, if_neg (by decide)]
    exact ob r206 (oT (zeT (bF P1)) rfl)
-- giveBack
def pGb (s : Nat → Int32) (a1 : Int32) : Bool := pin s 2 a1 && !phm s a1.toInt.toNat
def pgo (s : Nat → Int32) (t : Nat) : Nat → Int32 := pgv s t (s (10 + 6 * t))
theorem I_go (I : vI s) {t : Nat} (ht : (t : Int) < (s 2).toInt) : vI (pgo s t) := I_gv I ht (I.2.1 t ht).1.1 (I.2.1 t ht).1.2
theorem c132 {n hh : Nat} {a1 : Int32} (R : R32 s (m.1 10)) (I : vI s) (n20 : n < 20) (h20 : hh ≤ 20) (e1 : m.1 14 1 = Int32.ofNat n) (e2 : m.1 14 2 = Int32.ofNat hh) : if pGb s a1 = true then ∃ c', D132_0 F a1 m = some (s (10 + 6 * a1.toInt.toNat), xr (kpc m n hh) 10 c') ∧ R32 (pgo s a1.toInt.toNat) c' ∧ vI (pgo s a1.toInt.toNat) ∧ (∀ k, 124 ≤ k → k < 148 → pgo s a1.toInt.toNat k = s k) else D132_0 F a1 m = some (-1, m) := by
  have nt := I_nt I
  unfold pGb D132_0
  by_cases P1 : pin s 2 a1 = true
  · obtain ⟨t, ht, t2⟩ := pin_n P1
    rw [tnI ht (by omega), P1, Bool.true_and]
    by_cases P3 : phm s t = true
    · rw [P3, if_neg (by decide)]
      exact ob (c83_9 R) (oF (zeF P1) (ob (c97_9 R ht (by omega)) (oF (zeF P3) rfl)))
    · rw [bF P3, if_pos (show (!false) = true from rfl)]
      obtain ⟨c', k1, k2⟩ := a103_9 (m := kpc m n hh) (F := F) (k10 R) ht (by omega)
      refine ⟨c', ?_, k2, I_go I t2, fun k l1 l3 => pgv_o (by omega)⟩
      refine ob (c83_9 R) (oF (zeF P1) (ob (c97_9 R ht (by omega)) (oT (zeT (bF P3)) (ob (c16_9 e1 e2 n20 h20) (ob k1 (ob (c87_9 (s := pgo s t) (by rw [xr_s]; exact k2) ht (w := 0) rfl (by omega) (by decide)) ?_))))))
      exact congrArg (fun z => some (z, _)) pgv_0
  · rw [bF P1, Bool.false_and, if_neg (by decide)]
    exact ob (c83_9 R) (oT (zeT (bF P1)) rfl)
theorem r227 {hh : Nat} {a1 : Int32} (hF : 3000 ≤ F) (hT : xT m) (I : vI (m.1 80)) (h20 : hh ≤ 20) (e3 : m.1 70 25 = Int32.ofNat hh) : if pGb (m.1 80) a1 = true then xP (D227 F a1 m) (fun v m2 => v = m.1 80 (10 + 6 * a1.toInt.toNat) ∧ ∃ m2a, rkp m m2a hh ∧ m2 = xr m2a 80 (pgo (m.1 80) a1.toInt.toNat)) else D227 F a1 m = some (-1, m) := by
  have nt := I_nt I
  unfold pGb D227
  by_cases P1 : pin (m.1 80) 2 a1 = true
  · obtain ⟨t, ht, t2⟩ := pin_n P1
    rw [tnI ht (by omega), P1, Bool.true_and]
    by_cases P3 : phm (m.1 80) t = true
    · rw [P3, if_neg (by decide)]
      exact ob r206 (oF (zeF P1) (ob (r212 ht (by omega)) (oF (zeF P3) rfl)))
    · rw [bF P3, if_pos (show (!false) = true from rfl)]
      obtain ⟨⟨u, y⟩, hy, q1, q2⟩ := r220 hF hT e3 h20
      have e := y80 q2.1
      have k := r224 (F := F) (m := y) ht (by omega)
      rw [e] at k
      refine ⟨(_, _), ob r206 (oF (zeF P1) (ob (r212 ht (by omega)) (oT (zeT (bF P3)) (ob hy (ob k (ob (r208 ht (w := 0) rfl (by omega) (by decide)) rfl)))))), ?_, y, q2, rfl⟩
      dsimp only
      rw [xr_s]
      exact pgv_0
  · rw [bF P1, Bool.false_and, if_neg (by decide)]
    exact ob r206 (oT (zeT (bF P1)) rfl)
-- does
def pDo (s : Nat → Int32) (a1 : Int32) : Bool := pin s 3 a1 && pcd s a1.toInt.toNat
theorem c133 {n hh : Nat} {a1 : Int32} (hF : 500 ≤ F) (R : R32 s (m.1 10)) (I : vI s) (n20 : n < 20) (h20 : hh ≤ 20) (e1 : m.1 14 1 = Int32.ofNat n) (e2 : m.1 14 2 = Int32.ofNat hh) : if pDo s a1 = true then ∃ c', D133_0 F a1 m = some (s (124 + 4 * a1.toInt.toNat + 3), xr (kpc m n hh) 10 c') ∧ R32 (pwk s a1.toInt.toNat) c' ∧ vI (pwk s a1.toInt.toNat) ∧ (∀ k, 124 ≤ k → k < 148 → pwk s a1.toInt.toNat k = s k) else D133_0 F a1 m = some (-1, m) := by
  have nw := I_nw I
  unfold pDo D133_0
  by_cases P1 : pin s 3 a1 = true
  · obtain ⟨t, ht, t2⟩ := pin_n P1
    rw [tnI ht (by omega), P1, Bool.true_and]
    by_cases P3 : pcd s t = true
    · rw [if_pos P3]
      obtain ⟨c', k1, k2⟩ := a108_9 (m := kpc m n hh) (F := F) (k10 R) ht (by omega)
      refine ⟨c', ?_, k2, I_wk I t2, fun k l1 l3 => (cup_o (by omega)).trans (cup_o (by omega))⟩
      exact ob (c84_9 R) (oF (zeF P1) (ob (c107_9 hF R I ht t2) (oT (znT P3) (ob (c16_9 e1 e2 n20 h20) (ob k1 rfl)))))
    · rw [if_neg P3]
      exact ob (c84_9 R) (oF (zeF P1) (ob (c107_9 hF R I ht t2) (oF (znF (bF P3)) rfl)))
  · rw [bF P1, Bool.false_and, if_neg (by decide)]
    exact ob (c84_9 R) (oT (zeT (bF P1)) rfl)
theorem r228 {hh : Nat} {a1 : Int32} (hF : 3000 ≤ F) (hT : xT m) (I : vI (m.1 80)) (h20 : hh ≤ 20) (e3 : m.1 70 25 = Int32.ofNat hh) : if pDo (m.1 80) a1 = true then xP (D228 F a1 m) (fun v m2 => v = m.1 80 (124 + 4 * a1.toInt.toNat + 3) ∧ ∃ m2a, rkp m m2a hh ∧ m2 = xr m2a 80 (pwk (m.1 80) a1.toInt.toNat)) else D228 F a1 m = some (-1, m) := by
  have nt := I_nt I
  have nw := I_nw I
  unfold pDo D228
  by_cases P1 : pin (m.1 80) 3 a1 = true
  · obtain ⟨t, ht, t2⟩ := pin_n P1
    rw [tnI ht (by omega), P1, Bool.true_and]
    by_cases P3 : pcd (m.1 80) t = true
    · rw [if_pos P3]
      obtain ⟨⟨u, y⟩, hy, q1, q2⟩ := r220 hF hT e3 h20
      have e := y80 q2.1
      have k := r225 (F := F) (m := y) ht (by omega)
      rw [e] at k
      exact ⟨(_, _), ob r207 (oF (zeF P1) (ob (r216 (by omega) nt ht (by omega)) (oT (znT P3) (ob hy (ob k rfl))))), rfl, y, q2, rfl⟩
    · rw [if_neg P3]
      exact ob r207 (oF (zeF P1) (ob (r216 (by omega) nt ht (by omega)) (oF (znF (bF P3)) rfl)))
  · rw [bF P1, Bool.false_and, if_neg (by decide)]
    exact ob r207 (oT (zeT (bF P1)) rfl)
-- quarrel
theorem c86_9 (R : R32 s (m.1 10)) {v1 v2 : Int32} : D86_9 F v1 v2 m = some (pB (pin s 0 v1 && (pin s 0 v2 && !(v1 == v2))), m) := by
  unfold D86_9
  refine ob (c85_9 R) (oi (p := !pin s 0 v1) pB1 (fun a => ?_) (fun a => ?_))
  · rw [show pin s 0 v1 = false by simpa using a]
    rfl
  rw [show pin s 0 v1 = true by simpa using a]
  refine ob (c85_9 R) (oi (p := !pin s 0 v2) pB1 (fun b => ?_) (fun b => ?_))
  · rw [show pin s 0 v2 = false by simpa using b]
    rfl
  rw [show pin s 0 v2 = true by simpa using b]
  refine oi (p := v1 == v2) zce (fun c => ?_) (fun c => ?_)
  · rw [c]
    rfl
  · rw [c]
    rfl
theorem c93_9 (hT : xT m) (R : R32 s (m.1 10)) {a d : Nat} {v1 v2 : Int32} (h1 : v1 = Int32.ofNat a) (h2 : v2 = Int32.ofNat d) (ha : a < 6) (hd : d < 6) : D93_9 F v1 v2 m = some (pB (ptr s a d || ptr s d a), m) := by
  unfold D93_9
  refine ob (c92_9 hT R h1 h2 ha hd) (oi (p := ptr s a d) pB2 (fun b => ?_) (fun b => ?_))
  · rw [b]
    rfl
  rw [b, Bool.false_or]
  refine ob (c92_9 hT R h2 h1 hd ha) (oi (p := !ptr s d a) pB1 (fun c => ?_) (fun c => ?_))
  · rw [show ptr s d a = false by simpa using c]
    rfl
  · rw [show ptr s d a = true by simpa using c]
    rfl
def pQu (s : Nat → Int32) (a1 a2 : Int32) : Bool := (pin s 0 a1 && (pin s 0 a2 && !(a1 == a2))) && (ptr s a1.toInt.toNat a2.toInt.toNat || ptr s a2.toInt.toNat a1.toInt.toNat)
theorem pqu_o {a d k : Nat} (h : ¬ (46 ≤ k ∧ k < 82)) (ha : a < 6) (hd : d < 6) : pqu s a d k = s k := (cup_o (by omega)).trans (cup_o (by omega))
theorem c134 {n hh : Nat} {a1 a2 : Int32} (hT : xT m) (R : R32 s (m.1 10)) (I : vI s) (n20 : n < 20) (h20 : hh ≤ 20) (e1 : m.1 14 1 = Int32.ofNat n) (e2 : m.1 14 2 = Int32.ofNat hh) (hk : xT (kpc m n hh)) : if pQu s a1 a2 = true then ∃ c', D134_0 F a1 a2 m = some (1, xr (kpc m n hh) 10 c') ∧ R32 (pqu s a1.toInt.toNat a2.toInt.toNat) c' ∧ vI (pqu s a1.toInt.toNat a2.toInt.toNat) ∧ (∀ k, 124 ≤ k → k < 148 → pqu s a1.toInt.toNat a2.toInt.toNat k = s k) else D134_0 F a1 a2 m = some (0, m) := by
  have n6 := I_n6 I
  unfold pQu D134_0
  by_cases P : (pin s 0 a1 && (pin s 0 a2 && !(a1 == a2))) = true
  · have P0 := P
    simp only [Bool.and_eq_true, Bool.not_eq_true', beq_eq_false_iff_ne] at P0
    obtain ⟨P1, P2, P4⟩ := P0
    obtain ⟨t, ht, t2⟩ := pin_n P1
    obtain ⟨h, hh2, h2⟩ := pin_n P2
    have ne : t ≠ h := fun z => P4 (by rw [ht, hh2, z])
    rw [tnI ht (by omega), tnI hh2 (by omega), P, Bool.true_and]
    by_cases P3 : (ptr s t h || ptr s h t) = true
    · rw [if_pos P3]
      obtain ⟨c', k1, k2⟩ := a105_9 (m := kpc m n hh) (F := F) hk (k10 R) ht hh2 (by omega) (by omega) ne
      refine ⟨c', ?_, k2, I_qu I (by omega) (by omega), fun k l1 l3 => pqu_o (by omega) (by omega) (by omega)⟩
      exact ob (c86_9 R) (oF (zeF P) (ob (c93_9 hT R ht hh2 (by omega) (by omega)) (oT (znT P3) (ob (c16_9 e1 e2 n20 h20) (ob k1 rfl)))))
    · rw [if_neg P3]
      exact ob (c86_9 R) (oF (zeF P) (ob (c93_9 hT R ht hh2 (by omega) (by omega)) (oF (znF (bF P3)) rfl)))
  · rw [bF P, Bool.false_and, if_neg (by decide)]
    exact ob (c86_9 R) (oT (zeT (bF P)) rfl)
theorem r230_41 {hh a d : Nat} {v1 v2 : Int32} (hF : 3000 ≤ F) (hT : xT m) (h20 : hh ≤ 20) (e3 : m.1 70 25 = Int32.ofNat hh) (h1 : v1 = Int32.ofNat a) (h2 : v2 = Int32.ofNat d) (ha : a < 6) (hd : d < 6) : xP (D230_41 F v1 v2 m) (fun v m2 => v = 1 ∧ ∃ m2a, rkp m m2a hh ∧ m2 = xr m2a 80 (pqu (m.1 80) a d)) := by
  obtain ⟨⟨u, y⟩, hy, q1, q2⟩ := r220 hF hT e3 h20
  have e := y80 q2.1
  have k := r229 (F := F) (m := y) h1 h2 ha hd
  rw [e] at k
  unfold D230_41
  exact ⟨(_, _), ob hy (ob k rfl), rfl, y, q2, rfl⟩
theorem r230 {hh : Nat} {a1 a2 : Int32} (hF : 3000 ≤ F) (hT : xT m) (I : vI (m.1 80)) (h20 : hh ≤ 20) (e3 : m.1 70 25 = Int32.ofNat hh) : if pQu (m.1 80) a1 a2 = true then xP (D230 F a1 a2 m) (fun v m2 => v = 1 ∧ ∃ m2a, rkp m m2a hh ∧ m2 = xr m2a 80 (pqu (m.1 80) a1.toInt.toNat a2.toInt.toNat)) else D230 F a1 a2 m = some (0, m) := by
  have n6 := I_n6 I
  unfold pQu D230
  by_cases P1 : pin (m.1 80) 0 a1 = true
  · obtain ⟨t, ht, t2⟩ := pin_n P1
    by_cases P2 : pin (m.1 80) 0 a2 = true
    · obtain ⟨h, hh2, h2⟩ := pin_n P2
      rw [P1, P2, Bool.true_and, Bool.true_and, tnI ht (by omega), tnI hh2 (by omega)]
      by_cases P4 : (a1 == a2) = true
      · rw [P4, show (!true && (ptr (m.1 80) t h || ptr (m.1 80) h t)) = false from rfl, if_neg (by decide)]
        exact ob r205 (oF (zeF P1) (ob r205 (oF (zeF P2) (oT (zce.trans P4) rfl))))
      · rw [bF P4, show ∀ z, (!false && z) = z from fun z => Bool.true_and z]
        by_cases P3 : ptr (m.1 80) t h = true
        · rw [P3, Bool.true_or, if_pos rfl]
          obtain ⟨y, hy, q⟩ := r230_41 (F := F) hF hT h20 e3 ht hh2 (by omega) (by omega)
          exact ⟨y, ob r205 (oF (zeF P1) (ob r205 (oF (zeF P2) (oF (zce.trans (bF P4)) (ob (r210 ht hh2 (by omega) (by omega)) (oT (znT P3) hy)))))), q⟩
        · rw [bF P3, Bool.false_or]
          by_cases P5 : ptr (m.1 80) h t = true
          · rw [if_pos P5]
            obtain ⟨y, hy, q⟩ := r230_41 (F := F) hF hT h20 e3 ht hh2 (by omega) (by omega)
            exact ⟨y, ob r205 (oF (zeF P1) (ob r205 (oF (zeF P2) (oF (zce.trans (bF P4)) (ob (r210 ht hh2 (by omega) (by omega)) (oF (znF (bF P3)) (ob (r210 hh2 ht (by omega) (by omega)) (oT (znT P5) hy)))))))), q⟩
          · rw [if_neg P5]
            exact ob r205 (oF (zeF P1) (ob r205 (oF (zeF P2) (oF (zce.trans (bF P4)) (ob (r210 ht hh2 (by omega) (by omega)) (oF (znF (bF P3)) (ob (r210 hh2 ht (by omega) (by omega)) (oF (znF (bF P5)) rfl))))))))
    · rw [P1, bF P2, Bool.true_and, Bool.false_and, Bool.false_and, if_neg (by decide)]
      exact ob r205 (oF (zeF P1) (ob r205 (oT (zeT (bF P2)) rfl)))
  · rw [bF P1, Bool.false_and, Bool.false_and, if_neg (by decide)]
    exact ob r205 (oT (zeT (bF P1)) rfl)
-- gift
def pGf (s : Nat → Int32) (a1 a2 : Int32) : Bool := pin s 2 a1 && (pin s 0 a2 && !(s (10 + 6 * a1.toInt.toNat) == a2))
theorem c136 {n hh : Nat} {a1 a2 : Int32} (R : R32 s (m.1 10)) (I : vI s) (n20 : n < 20) (h20 : hh ≤ 20) (e1 : m.1 14 1 = Int32.ofNat n) (e2 : m.1 14 2 = Int32.ofNat hh) : if pGf s a1 a2 = true then ∃ c', D136_0 F a1 a2 m = some (s (10 + 6 * a1.toInt.toNat), xr (kpc m n hh) 10 c') ∧ R32 (pgv s a1.toInt.toNat a2) c' ∧ vI (pgv s a1.toInt.toNat a2) ∧ (∀ k, 124 ≤ k → k < 148 → pgv s a1.toInt.toNat a2 k = s k) else D136_0 F a1 a2 m = some (-1, m) := by
  have nt := I_nt I
  have n6 := I_n6 I
  unfold pGf D136_0
  by_cases P1 : pin s 2 a1 = true
  · obtain ⟨t, ht, t2⟩ := pin_n P1
    by_cases P2 : pin s 0 a2 = true
    · rw [tnI ht (by omega), P1, P2, Bool.true_and, Bool.true_and]
      have b2 := pin_iff.mp P2
      by_cases P3 : (s (10 + 6 * t) == a2) = true
      · rw [P3, if_neg (by decide)]
        exact ob (c83_9 R) (oF (zeF P1) (ob (c85_9 R) (oT (znT P2) (ob (c87_9 R ht (w := 0) rfl (by omega) (by decide)) (oF (zcn.trans (by show (!(s (10 + 6 * t) == a2)) = false; rw [P3]; rfl)) rfl)))))
      · rw [bF P3, if_pos (show (!false) = true from rfl)]
        have k1 := a104_9 (m := kpc m n hh) (F := F) (v2 := a2) ht (by omega)
        refine ⟨_, ?_, R_gv (k10 (n := n) (h := hh) R) (by omega), I_gv I t2 b2.1 b2.2, fun k l1 l3 => pgv_o (by omega)⟩
        exact ob (c83_9 R) (oF (zeF P1) (ob (c85_9 R) (oT (znT P2) (ob (c87_9 R ht (w := 0) rfl (by omega) (by decide)) (oT (zcn.trans (by show (!(s (10 + 6 * t) == a2)) = true; rw [bF P3]; rfl)) (ob (c16_9 e1 e2 n20 h20) (ob k1 rfl)))))))
    · rw [P1, bF P2, Bool.true_and, Bool.false_and, if_neg (by decide)]
      exact ob (c83_9 R) (oF (zeF P1) (ob (c85_9 R) (oF (znF (bF P2)) rfl)))
  · rw [bF P1, Bool.false_and, if_neg (by decide)]
    exact ob (c83_9 R) (oT (zeT (bF P1)) rfl)
theorem r232 {hh : Nat} {a1 a2 : Int32} (hF : 3000 ≤ F) (hT : xT m) (I : vI (m.1 80)) (h20 : hh ≤ 20) (e3 : m.1 70 25 = Int32.ofNat hh) : if pGf (m.1 80) a1 a2 = true then xP (D232 F a1 a2 m) (fun v m2 => v = m.1 80 (10 + 6 * a1.toInt.toNat) ∧ ∃ m2a, rkp m m2a hh ∧ m2 = xr m2a 80 (pgv (m.1 80) a1.toInt.toNat a2)) else D232 F a1 a2 m = some (-1, m) := by
  have nt := I_nt I
  unfold pGf D232
  by_cases P1 : pin (m.1 80) 2 a1 = true
  · obtain ⟨t, ht, t2⟩ := pin_n P1
    by_cases P2 : pin (m.1 80) 0 a2 = true
    · rw [tnI ht (by omega), P1, P2, Bool.true_and, Bool.true_and]
      by_cases P3 : (m.1 80 (10 + 6 * t) == a2) = true
      · rw [P3, if_neg (by decide)]
        exact ob r206 (oF (zeF P1) (ob r205 (oF (zeF P2) (ob (r208 ht (w := 0) rfl (by omega) (by decide)) (oF (zcn.trans (by show (!(m.1 80 (10 + 6 * t) == a2)) = false; rw [P3]; rfl)) rfl)))))
      · rw [bF P3, if_pos (show (!false) = true from rfl)]
        obtain ⟨⟨u, y⟩, hy, q1, q2⟩ := r220 hF hT e3 h20
        have e := y80 q2.1
        have k := r231 (F := F) (m := y) (v2 := a2) ht (by omega)
        rw [e] at k
        refine ⟨(_, _), ob r206 (oF (zeF P1) (ob r205 (oF (zeF P2) (ob (r208 ht (w := 0) rfl (by omega) (by decide)) (oT (zcn.trans (by show (!(m.1 80 (10 + 6 * t) == a2)) = true; rw [bF P3]; rfl)) (ob hy (ob (r208 ht (w := 0) rfl (by omega) (by decide)) (ob k rfl)))))))), ?_, y, q2, rfl⟩
        dsimp only
        rw [e]
        rfl
    · rw [P1, bF P2, Bool.true_and, Bool.false_and, if_neg (by decide)]
      exact ob r206 (oF (zeF P1) (ob r205 (oT (zeT (bF P2)) rfl)))
  · rw [bF P1, Bool.false_and, if_neg (by decide)]
    exact ob r206 (oT (zeT (bF P1)) rfl)
-- day
theorem c76_9 (R : R32 s (m.1 10)) : D76_9 F m = some (pB (decide (0 < (s 0).toInt)), m) := by
  unfold D76_9
  refine ob (c77_9 R) (oi (p := decide ((s 0).toInt ≤ 0)) zcle (fun a => ?_) (fun a => ?_))
  · have a := of_decide_eq_true a
    rw [decide_eq_false (by omega)]
    rfl
  · have a := of_decide_eq_false a
    rw [decide_eq_true (by omega)]
    rfl
theorem r204 : D204 F m = some (pB (decide (0 < (m.1 80 0).toInt)), m) := by
  unfold D204
  refine oi (p := decide ((m.1 80 0).toInt ≤ 0)) zcle (fun a => ?_) (fun a => ?_)
  · have a := of_decide_eq_true a
    rw [decide_eq_false (by omega)]
    rfl
  · have a := of_decide_eq_false a
    rw [decide_eq_true (by omega)]
    rfl
theorem c113_9_4 (R : R32 s (m.1 10)) (I : vI s) : ∀ (f : Nat) {t : Nat} {v : Int32}, (t : Int) ≤ (s 2).toInt → 6 - t < f → D113_9_4 F f v (Int32.ofNat t) m = some (plc s t ((s 2).toInt.toNat - t) v, m) := by
  have n6 := I_nt I
  intro f
  induction f with
  | zero => intro t v _ l; omega
  | succ f ih =>
    intro t v ht l
    have et := nJ (n := t) (by omega)
    unfold D113_9_4
    refine ob (c79_9 R) (oi (p := decide ((s 2).toInt ≤ (Int32.ofNat t).toInt)) zc (fun h => ?_) (fun h => ?_))
    · have h := of_decide_eq_true h
      rw [show (s 2).toInt.toNat - t = 0 by omega]
      rfl
    · have h := of_decide_eq_false h
      rw [show (s 2).toInt.toNat - t = ((s 2).toInt.toNat - (t + 1)) + 1 by omega]
      show _ = some (plc s (t + 1) ((s 2).toInt.toNat - (t + 1)) (if plt s t = true then v + 1 else v), m)
      have next : ∀ {v' : Int32}, D113_9_23 F (D113_9_4 F f) v' (Int32.ofNat t) m = some (plc s (t + 1) ((s 2).toInt.toNat - (t + 1)) v', m) := fun {v'} => by
        unfold D113_9_23
        rw [show Int32.ofNat t + Int32.ofInt 1 = Int32.ofNat (t + 1) from xadd (a := t) (b := 1) (by omega)]
        exact ih (by omega) (by omega)
      refine ob (c98_9 R I rfl (by omega)) (oi (p := decide ((prs s t).toInt ≤ 0)) zcle (fun a => ?_) (fun a => ?_))
      · have a := of_decide_eq_true a
        rw [show plt s t = false from decide_eq_false (by omega), if_neg (by decide)]
        exact next
      · have a := of_decide_eq_false a
        rw [show plt s t = true from decide_eq_true (by omega), if_pos rfl]
        exact next
theorem c113_9 (hF : 500 ≤ F) (R : R32 s (m.1 10)) (I : vI s) : D113_9 F m = some (plc s 0 (s 2).toInt.toNat 0, m) := by
  have n6 := I_nt I
  have z := c113_9_4 (F := F) R I F (t := 0) (v := 0) (by omega) (by omega)
  rw [Nat.sub_zero] at z
  exact z
def pDy (s : Nat → Int32) : Bool := decide (0 < (s 0).toInt) && decide ((s 4).toInt < 999)
theorem c137 {n hh : Nat} (hF : 500 ≤ F) (R : R32 s (m.1 10)) (I : vI s) (n20 : n < 20) (h20 : hh ≤ 20) (e1 : m.1 14 1 = Int32.ofNat n) (e2 : m.1 14 2 = Int32.ofNat hh) : if pDy s = true then ∃ c', D137_0 F m = some (plc (pdy s) 0 (s 2).toInt.toNat 0, xr (kpc m n hh) 10 c') ∧ R32 (pdy s) c' ∧ vI (pdy s) ∧ (∀ k, 124 ≤ k → k < 148 → pdy s k = s k) else D137_0 F m = some (-1, m) := by
  unfold pDy D137_0
  by_cases P1 : 0 < (s 0).toInt
  · by_cases P2 : (s 4).toInt < 999
    · rw [decide_eq_true P1, decide_eq_true P2, if_pos (show (true && true) = true from rfl)]
      obtain ⟨c', k1, k2⟩ := a112_9 (m := kpc m n hh) (F := F) hF (k10 R) I P2
      have I' := I_dy I (by omega)
      have k3 := c113_9 (F := F) (m := xr (kpc m n hh) 10 c') (s := pdy s) hF (by rw [xr_s]; exact k2) I'
      rw [pdy_o I (j := 2) (fun i _ => by omega) (by decide)] at k3
      refine ⟨c', ?_, k2, I', fun k l1 l3 => pdy_o I (fun i _ => by omega) (by omega)⟩
      exact ob (c76_9 R) (oF (zeF (decide_eq_true P1)) (ob (c81_9 R) (oT (zcl.trans (decide_eq_true P2)) (ob (c16_9 e1 e2 n20 h20) (ob k1 (ob k3 rfl))))))
    · rw [decide_eq_true P1, decide_eq_false P2, if_neg (by decide)]
      exact ob (c76_9 R) (oF (zeF (decide_eq_true P1)) (ob (c81_9 R) (oF (zcl.trans (decide_eq_false P2)) rfl)))
  · rw [decide_eq_false P1, Bool.false_and, if_neg (by decide)]
    exact ob (c76_9 R) (oT (zeT (decide_eq_false P1)) rfl)
theorem r234 {hh : Nat} (hF : 3000 ≤ F) (hT : xT m) (I9 : vI9 (m.1 80)) (h20 : hh ≤ 20) (e3 : m.1 70 25 = Int32.ofNat hh) : if pDy (m.1 80) = true then xP (D234 F m) (fun v m2 => v = plc (pdy (m.1 80)) 0 (m.1 80 2).toInt.toNat 0 ∧ ∃ m2a, rkp m m2a hh ∧ m2 = xr m2a 80 (pdy (m.1 80))) else D234 F m = some (-1, m) := by
  have I := I9.1
  have dy := I9.2
  unfold pDy D234
  by_cases P1 : 0 < (m.1 80 0).toInt
  · by_cases P2 : (m.1 80 4).toInt < 999
    · rw [decide_eq_true P1, decide_eq_true P2, if_pos (show (true && true) = true from rfl)]
      obtain ⟨⟨u, y⟩, hy, q1, q2⟩ := r220 hF hT e3 h20
      have e := y80 q2.1
      have k := r233 (F := F) (m := y) (by omega) (by rw [e]; exact I)
      rw [e] at k
      refine ⟨(_, _), ob r204 (oF (zeF (decide_eq_true P1)) (oT (zcn.trans ?_) (ob hy (ob k rfl)))), rfl, y, q2, rfl⟩
      show (!(m.1 80 4 == 999)) = true
      have ne : (m.1 80 4 == 999) = false := by
        simp only [beq_eq_false_iff_ne]
        intro z
        rw [z] at P2
        exact absurd P2 (by decide)
      rw [ne]
      rfl
    · rw [decide_eq_true P1, decide_eq_false P2, if_neg (by decide)]
      refine ob r204 (oF (zeF (decide_eq_true P1)) (oF (zcn.trans ?_) rfl))
      show (!(m.1 80 4 == 999)) = false
      have e9 : m.1 80 4 = 999 := Int32.toInt_inj.mp (by show _ = (999 : Int); omega)
      rw [e9]
      rfl
  · rw [decide_eq_false P1, Bool.false_and, if_neg (by decide)]
    exact ob r204 (oT (zeT (decide_eq_false P1)) rfl)
theorem pdy_9 {s : Nat → Int32} (I : vI9 s) (p : pDy s = true) : (pdy s 4).toInt ≤ 999 := by
  unfold pDy at p
  rw [Bool.and_eq_true, decide_eq_true_eq, decide_eq_true_eq] at p
  have b := I_day I.1
  rw [pdy_4, show (s 4 + 1).toInt = (s 4).toInt + 1 from xa1 (by show _ ≤ _ + (1 : Int); omega) (by show _ + (1 : Int) ≤ _; omega)]
  omega
end KACT
