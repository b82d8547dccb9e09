/-! count, in pairs. -/
section PCNT
variable {m : xS} {F : Nat} {s : Nat → Int32}
def pbt (s : Nat → Int32) : Nat → Nat → Int32 → Int32
  | _, 0, v => v
  | w, n + 1, v => pbt s (w + 1) n (if pdn s w = true then v ||| (1 <<< (Int32.ofNat w &&& 31)) else v)
def psu (s : Nat → Int32) : Nat → Nat → Int32 → Int32
  | _, 0, v => v
  | k, n + 1, v => psu s (k + 1) n (v + s (82 + k))
theorem c110_4 (R : R32 s (m.1 10)) (I : vI s) : ∀ (f : Nat) {w : Nat} {v : Int32}, (w : Int) ≤ (s 3).toInt → 6 - w < f → D110_9_4 F f v (Int32.ofNat w) m = some (pbt s w ((s 3).toInt.toNat - w) v, m) := by
  have nw := I_nw I
  intro f
  induction f with
  | zero => intro w v _ l; omega
  | succ f ih =>
    intro w v hw l
    have ew := nJ (n := w) (by omega)
    unfold D110_9_4
    refine ob (c80_9 R) (oi (p := decide ((s 3).toInt ≤ (Int32.ofNat w).toInt)) zc (fun h => ?_) (fun h => ?_))
    · have h := of_decide_eq_true h
      rw [show (s 3).toInt.toNat - w = 0 by omega]
      rfl
    · have h := of_decide_eq_false h
      rw [show (s 3).toInt.toNat - w = ((s 3).toInt.toNat - (w + 1)) + 1 by omega]
      show _ = some (pbt s (w + 1) ((s 3).toInt.toNat - (w + 1)) (if pdn s w = true then v ||| (1 <<< (Int32.ofNat w &&& 31)) else v), m)
      have next : ∀ {v' : Int32}, D110_9_26 F (D110_9_4 F f) v' (Int32.ofNat w) m = some (pbt s (w + 1) ((s 3).toInt.toNat - (w + 1)) v', m) := fun {v'} => by
        unfold D110_9_26
        rw [show Int32.ofNat w + Int32.ofInt 1 = Int32.ofNat (w + 1) from xadd (a := w) (b := 1) (by omega)]
        exact ih (by omega) (by omega)
      refine ob (c106_9 R I rfl (by omega)) (oi (p := !pdn s w) pB1 (fun a => ?_) (fun a => ?_))
      · rw [show pdn s w = false by simpa using a, if_neg (by decide)]
        exact next
      · rw [show pdn s w = true by simpa using a, if_pos rfl]
        exact next
theorem r277_92 (I : vI (m.1 80)) {v1 : Int32} : ∀ (f : Nat) {w : Nat} {v : Int32}, (w : Int) ≤ (m.1 80 3).toInt → 6 - w < f → D277_92 F f v1 v (Int32.ofNat w) m = some (pbt (m.1 80) w ((m.1 80 3).toInt.toNat - w) v, m) := by
  have nw := I_nw I
  intro f
  induction f with
  | zero => intro w v _ l; omega
  | succ f ih =>
    intro w v hw l
    have ew := nJ (n := w) (by omega)
    unfold D277_92
    refine oi (p := decide ((m.1 80 3).toInt ≤ (Int32.ofNat w).toInt)) zc (fun h => ?_) (fun h => ?_)
    · have h := of_decide_eq_true h
      rw [show (m.1 80 3).toInt.toNat - w = 0 by omega]
      rfl
    · have h := of_decide_eq_false h
      rw [show (m.1 80 3).toInt.toNat - w = ((m.1 80 3).toInt.toNat - (w + 1)) + 1 by omega]
      show _ = some (pbt (m.1 80) (w + 1) ((m.1 80 3).toInt.toNat - (w + 1)) (if pdn (m.1 80) w = true then v ||| (1 <<< (Int32.ofNat w &&& 31)) else v), m)
      have next : ∀ {v' : Int32}, D277_92 F f v1 v' (Int32.ofNat w + Int32.ofInt 1) m = some (pbt (m.1 80) (w + 1) ((m.1 80 3).toInt.toNat - (w + 1)) v', m) := fun {v'} => by
        rw [show Int32.ofNat w + Int32.ofInt 1 = Int32.ofNat (w + 1) from xadd (a := w) (b := 1) (by omega)]
        exact ih (by omega) (by omega)
      refine ob (r215 rfl (by omega)) (oi (p := !pdn (m.1 80) w) pB1 (fun a => ?_) (fun a => ?_))
      · rw [show pdn (m.1 80) w = false by simpa using a, if_neg (by decide)]
        unfold D277_118
        rw [show v ||| (0 : Int32) = v from Int32.or_zero]
        exact next
      · rw [show pdn (m.1 80) w = true by simpa using a, if_pos rfl]
        unfold D277_118
        exact next
theorem c96_5 (R : R32 s (m.1 10)) : ∀ (f : Nat) {k : Nat} {v : Int32}, k ≤ 36 → 36 - k < f → D96_9_5 F f v (Int32.ofNat (78 + k)) m = some (psu s k (36 - k) v, m) := by
  intro f
  induction f with
  | zero => intro k v _ l; omega
  | succ f ih =>
    intro k v hk l
    have ek := nJ (n := 78 + k) (by omega)
    unfold D96_9_5
    refine oi (p := decide ((114 : Int) ≤ (Int32.ofNat (78 + k)).toInt)) zc (fun h => ?_) (fun h => ?_)
    · have h := of_decide_eq_true h
      rw [show 36 - k = 0 by omega]
      rfl
    · have h := of_decide_eq_false h
      rw [show 36 - k = (36 - (k + 1)) + 1 by omega]
      show _ = some (psu s (k + 1) (36 - (k + 1)) (v + s (82 + k)), m)
      have e := R_h R (a := k / 6) (d := k % 6) (by omega) (by omega)
      rw [show 78 + 6 * (k / 6) + k % 6 = 78 + k by omega, show 82 + 6 * (k / 6) + k % 6 = 82 + k by omega] at e
      rw [if_pos (gxb ek (by omega)), gxn ek, e, show Int32.ofNat (78 + k) + Int32.ofInt 1 = Int32.ofNat (78 + (k + 1)) from xadd (a := 78 + k) (b := 1) (by omega)]
      exact ih (by omega) (by omega)
theorem r277_130 {v1 : Int32} : ∀ (f : Nat) {k : Nat} {v : Int32}, k ≤ 36 → 36 - k < f → D277_130 F f v1 v (Int32.ofNat k) m = some (psu (m.1 80) k (36 - k) v, m) := by
  intro f
  induction f with
  | zero => intro k v _ l; omega
  | succ f ih =>
    intro k v hk l
    have ek := nJ (n := k) (by omega)
    have i := ix1 (A := 82) (B := 82) (d := k) rfl (by decide) (by omega)
    unfold D277_130
    refine oi (p := decide ((36 : Int) ≤ (Int32.ofNat k).toInt)) zc (fun h => ?_) (fun h => ?_)
    · have h := of_decide_eq_true h
      rw [show 36 - k = 0 by omega]
      rfl
    · have h := of_decide_eq_false h
      rw [show 36 - k = (36 - (k + 1)) + 1 by omega]
      show _ = some (psu (m.1 80) (k + 1) (36 - (k + 1)) (v + m.1 80 (82 + k)), m)
      rw [if_pos (gxb i (by omega)), gxn i, show Int32.ofNat k + Int32.ofInt 1 = Int32.ofNat (k + 1) from xadd (a := k) (b := 1) (by omega)]
      exact ih (by omega) (by omega)
/-- what count answers: r, t: rules, bytes of the tape; h: acts; x -/
def pCt (s : Nat → Int32) (r t h x a : Int32) : Int32 := if a = 0 then s 0 else if a = 1 then s 1 else if a = 2 then s 2 else if a = 3 then s 3 else if a = 4 then r else if a = 5 then s 4 else if a = 6 then s 5 else if a = 7 then pbt s 0 (s 3).toInt.toNat 0 else if a = 8 then psu s 0 36 0 else if a = 9 then h else if a = 10 then x else if a = 11 then t else -1
theorem obe {α : Type} {a : Int32} {c : Int32} {x y r : Option α} (h1 : a = c → x = r) (h2 : ¬ a = c → y = r) : (if (a == c) = true then x else y) = r := by
  by_cases h : a = c
  · rw [if_pos (by rw [h]; exact beq_self_eq_true c)]
    exact h1 h
  · rw [if_neg (by simpa using h)]
    exact h2 h
theorem c154 {a : Int32} (hF : 500 ≤ F) (R : R32 s (m.1 10)) (I : vI s) : D154_0 F a m = some (pCt s (m.1 0 8) (m.1 0 1) (m.1 14 2) (m.1 43 0) a, m) := by
  have nw := I_nw I
  unfold D154_0
  refine obe (fun h => ?_) (fun h0 => obe (fun h => ?_) (fun h1 => obe (fun h => ?_) (fun h2 => obe (fun h => ?_) (fun h3 => obe (fun h => ?_) (fun h4 => obe (fun h => ?_) (fun h5 => obe (fun h => ?_) (fun h6 => obe (fun h => ?_) (fun h7 => obe (fun h => ?_) (fun h8 => obe (fun h => ?_) (fun h9 => obe (fun h => ?_) (fun h10 => obe (fun h => ?_) (fun h11 => ?_))))))))))))
  · subst h
    exact ob (c77_9 R) rfl
  · subst h
    exact ob (c78_9 R) rfl
  · subst h
    exact ob (c79_9 R) rfl
  · subst h
    exact ob (c80_9 R) rfl
  · subst h
    rfl
  · subst h
    exact ob (c81_9 R) rfl
  · subst h
    exact ob (c82_9 R) rfl
  · subst h
    have z := c110_4 (F := F) R I F (w := 0) (v := 0) (by omega) (by omega)
    rw [Nat.sub_zero] at z
    refine ob (a := pbt s 0 (s 3).toInt.toNat 0) (m := m) ?_ rfl
    unfold D110_9
    exact z
  · subst h
    have z := c96_5 (F := F) R F (k := 0) (v := 0) (by omega) (by omega)
    refine ob (a := psu s 0 36 0) (m := m) ?_ rfl
    unfold D96_9
    exact z
  · subst h
    exact ob rfl rfl
  · subst h
    rfl
  · subst h
    rfl
  · unfold pCt
    rw [if_neg h0, if_neg h1, if_neg h2, if_neg h3, if_neg h4, if_neg h5, if_neg h6, if_neg h7, if_neg h8, if_neg h9, if_neg h10, if_neg h11]
theorem r277 {a : Int32} (hF : 500 ≤ F) (I : vI (m.1 80)) : D277 F a m = some (pCt (m.1 80) (m.1 70 2) (m.1 70 1) (m.1 70 25) (m.1 70 23) a, m) := by
  have nw := I_nw I
  unfold D277
  refine obe (fun h => ?_) (fun h0 => obe (fun h => ?_) (fun h1 => obe (fun h => ?_) (fun h2 => obe (fun h => ?_) (fun h3 => obe (fun h => ?_) (fun h4 => obe (fun h => ?_) (fun h5 => obe (fun h => ?_) (fun h6 => obe (fun h => ?_) (fun h7 => obe (fun h => ?_) (fun h8 => obe (fun h => ?_) (fun h9 => obe (fun h => ?_) (fun h10 => obe (fun h => ?_) (fun h11 => ?_))))))))))))
  · subst h
    exact oT (by decide) rfl
  · subst h
    exact oT (by decide) rfl
  · subst h
    exact oT (by decide) rfl
  · subst h
    exact oT (by decide) rfl
  · subst h
    rfl
  · subst h
    rfl
  · subst h
    rfl
  · subst h
    have z := r277_92 (F := F) I F (v1 := 7) (w := 0) (v := 0) (by omega) (by omega)
    rw [Nat.sub_zero] at z
    exact z
  · subst h
    exact r277_130 (F := F) F (v1 := 8) (k := 0) (v := 0) (by omega) (by omega)
  · subst h
    rfl
  · subst h
    rfl
  · subst h
    rfl
  · unfold pCt
    rw [if_neg h0, if_neg h1, if_neg h2, if_neg h3, if_neg h4, if_neg h5, if_neg h6, if_neg h7, if_neg h8, if_neg h9, if_neg h10, if_neg h11]
theorem kq_28 {y1 : Int32} (hp : zHp) (hI : MI hp) : xP (D154_0 3000 y1 (xof hp)) (fun v1 m1 => ∀ m1', xrw m1 m1' → xT m1' → xP (D277 3000 y1 m1') (fun v2 m2 => (true = true → v1 = v2) ∧ rMx m2)) := by
  have M := hI.2
  have r0 := hI.1.2
  refine ⟨_, c154 (by decide) M.1.1 M.1.2.1, fun m1' w t1 => ?_⟩
  have M2 := rMx_w w M
  refine ⟨_, r277 (by decide) M2.1.2.1, fun _ => ?_, M2⟩
  obtain ⟨n, h, -, ⟨-, e2, e3⟩, -⟩ := M.2.1
  show pCt _ _ _ _ _ _ = pCt _ _ _ _ _ _
  have k1 : (xof hp).1 70 1 = (xof hp).1 0 1 := Int32.toInt_inj.mp r0.1
  have k2 : (xof hp).1 70 2 = (xof hp).1 0 8 := Int32.toInt_inj.mp r0.2.1
  rw [w.1 80 0 148 (by decide), w.2 70 11 1 (by decide), w.2 70 11 2 (by decide), w.2 70 11 25 (by decide), w.2 70 11 23 (by decide), k1, k2, e2, e3, M.2.2.2]
end PCNT
