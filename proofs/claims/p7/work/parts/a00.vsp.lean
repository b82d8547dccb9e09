/-! What a village's text says: numbers, clauses, the whole text. -/
def vup (s : Nat → Int) (k : Nat) (x : Int) : Nat → Int := fun j => if j = k then x else s j
theorem vup_s (s : Nat → Int) (k : Nat) (x : Int) : vup s k x k = x := if_pos rfl
theorem vup_o {s : Nat → Int} {k j : Nat} {x : Int} (h : j ≠ k) : vup s k x j = s j := if_neg h
/-- the next number: its fault, or it and the place behind it -/
def vnu (b : Nat → Int) (n p : Nat) (lo hi : Int) : Int ⊕ (Int × Nat) :=
  if ¬ (tsk b n p < n ∧ tdg (b (tsk b n p)) = true) then .inl (1 + 8 * (tsk b n p : Int))
  else if 5 < tde b n p - tsk b n p ∨ tv b (tsk b n p) (min (tde b n p - tsk b n p) 5) < lo ∨ hi < tv b (tsk b n p) (min (tde b n p - tsk b n p) 5) then .inl (1 + 8 * (tsk b n p : Int) + 1)
  else .inr (tv b (tsk b n p) (min (tde b n p - tsk b n p) 5), tde b n p)
def vn {α : Type} (b : Nat → Int) (n p : Nat) (lo hi : Int) (K : Int → Nat → Int ⊕ α) : Int ⊕ α := match vnu b n p lo hi with
  | .inl g => .inl g
  | .inr q => K q.1 q.2
/-- two houses, unlike -/
def vtwo {α : Type} (b : Nat → Int) (n p : Nat) (h : Int) (K : Int → Int → Nat → Int ⊕ α) : Int ⊕ α :=
  vn b n p 0 (h - 1) fun a e => vn b n e 0 (h - 1) fun c e2 => if a = c then .inl (1 + 8 * (tsk b n e : Int) + 1) else K a c e2
abbrev vSt : Type := Nat × (Nat → Int)
def vTool (s : Nat → Int) (t : Nat) (a c d : Int) : Nat → Int := vup (vup (vup (vup (vup (vup (vup s (10 + 6 * t) a) (10 + 6 * t + 1) c) (10 + 6 * t + 2) d) (10 + 6 * t + 3) a) (10 + 6 * t + 4) 0) (10 + 6 * t + 5) 0) 2 ((t : Int) + 1)
def vWork (s : Nat → Int) (w : Nat) (a c d e : Int) : Nat → Int := vup (vup (vup (vup (vup s (124 + 4 * w) a) (124 + 4 * w + 1) c) (124 + 4 * w + 2) d) (124 + 4 * w + 3) e) 3 ((w : Int) + 1)
/-- behind a clause's word; u: which word -/
def vbod (b : Nat → Int) (n p : Nat) (s : Nat → Int) (u : Nat) : Int ⊕ vSt :=
  if u = 0 then vn b n p 2 6 fun a e => vn b n e 1 20 fun c e2 => .inr (e2, vup (vup s 1 c) 0 a)
  else if u = 1 then vn b n p 0 (s 0 - 1) fun a e => vn b n e 0 4 fun c e2 => vn b n e2 0 9 fun d e3 => .inr (e3, vTool s (s 2).toNat a c d)
  else if u = 2 then vtwo b n p (s 0) fun a c e => .inr (e, vup s (46 + 6 * a.toNat + c.toNat) 1)
  else if u = 3 then vn b n p 0 (s 0 - 1) fun a e => vn b n e 0 4 fun c e2 => vn b n e2 1 20 fun d e3 => vn b n e3 1 50 fun f e4 => .inr (e4, vWork s (s 3).toNat a c d f)
  else vtwo b n p (s 0) fun a c e => vn b n e 0 9 fun d e2 => .inr (e2, vup s (82 + 6 * a.toNat + c.toNat) d)
/-- may this clause stand here -/
def vmay (s : Nat → Int) (k u : Nat) : Bool := if k = 0 then u == 0 else u != 0 && (decide (k < 40) && ((u != 1 || decide (s 2 < 6)) && (u != 3 || decide (s 3 < 6))))
def vcl (b : Nat → Int) (n k p : Nat) (s : Nat → Int) : Int ⊕ vSt := match tix (twd b n p) tCls with
  | none => .inl (1 + 8 * (tsk b n p : Int))
  | some u => if vmay s k u = true then vbod b n (tS tlt b n (tsk b n p)) s u else .inl (1 + 8 * (tsk b n p : Int) + 4)
def vrun (b : Nat → Int) (n : Nat) : Nat → Nat → Nat → (Nat → Int) → Int ⊕ (Nat → Int)
  | 0, _, _, _ => .inl 0
  | f + 1, k, p, s => match vcl b n k p s with
    | .inl g => .inl g
    | .inr q => if tsg b n (tsk b n q.1) = 59 then vrun b n f (k + 1) (tsk b n q.1 + 1) q.2 else if tsg b n (tsk b n q.1) = -1 then .inr q.2 else .inl (1 + 8 * (tsk b n q.1 : Int))
section VSP
variable {b : Nat → Int} {n p : Nat} {lo hi : Int}
theorem vn_l {α : Type} {K : Int → Nat → Int ⊕ α} {g : Int} (h : vnu b n p lo hi = .inl g) : vn b n p lo hi K = .inl g := by
  unfold vn
  rw [h]
theorem vn_r {α : Type} {K : Int → Nat → Int ⊕ α} {v : Int} {e : Nat} (h : vnu b n p lo hi = .inr (v, e)) : vn b n p lo hi K = K v e := by
  unfold vn
  rw [h]
theorem tsk_id : tsk b n (tsk b n p) = tsk b n p := tS_id p
theorem tde_id : tde b n (tsk b n p) = tde b n p := by
  show tS tdg b n (tS tbl b n (tS tbl b n p)) = _
  rw [tS_id]
theorem vnu_b {v : Int} {e : Nat} (h : vnu b n p lo hi = .inr (v, e)) : lo ≤ v ∧ v ≤ hi ∧ e ≤ n ∧ p ≤ e := by
  unfold vnu at h
  split at h
  · cases h
  · next h1 =>
    split at h
    · cases h
    · next h2 =>
      have h := Sum.inr.inj h
      obtain ⟨rfl, rfl⟩ := Prod.mk.inj h
      have h1 : tsk b n p < n := (Decidable.not_not.mp h1).1
      have g1 : p ≤ tsk b n p := tS_ge _
      have g2 : tsk b n p ≤ tde b n p := tS_ge _
      have g3 : tde b n p ≤ n := tS_le _ (Nat.le_of_lt h1)
      omega
theorem vnu_f {g : Int} (hp : p ≤ n) (h : vnu b n p lo hi = .inl g) : 1 ≤ g ∧ g ≤ 8 * (n : Int) + 2 := by
  have g1 : tsk b n p ≤ n := tS_le _ hp
  unfold vnu at h
  split at h
  · have h := Sum.inl.inj h
    omega
  · split at h
    · have h := Sum.inl.inj h
      omega
    · cases h
end VSP
