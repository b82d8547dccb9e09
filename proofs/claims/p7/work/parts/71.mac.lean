/-! A machine that reads rules, as the class does: place, values and facts counted, steps (the last first), what waits (the last first), clauses, what is expected, where. -/
abbrev tSt : Type := Nat × Nat × List Int × List Int × Nat × Nat × Nat
def tcl (o : Int) : Int := if o ≤ 3 then o else if o ≤ 8 then 4 else if o ≤ 10 then 9 else 11
def tSe (o : Int) : List Int → List Int → List Int × List Int × Nat
  | [], out => (out, [], 0)
  | w :: ws, out => if tcl o ≤ tcl w then ((tSe o ws (w :: out)).1, (tSe o ws (w :: out)).2.1, (tSe o ws (w :: out)).2.2 + (if w = 3 then 1 else 0)) else (out, w :: ws, 0)
def tdp : List Int → Nat
  | [] => 0
  | w :: ws => (if w = 0 ∨ w = 3 then 1 else 0) + tdp ws
def tbr : List Int → Nat
  | [] => 0
  | w :: ws => (if w = 0 then 1 else 0) + tbr ws
def topr (c : Int) : Int := if c = 43 then 9 else if c = 45 then 10 else if c = 42 then 11 else if c = 47 then 12 else if c = 37 then 13 else -1
section TMAC
variable (b : Nat → Int) (n : Nat)
abbrev tsk (p : Nat) : Nat := tS tbl b n p
abbrev tle (p : Nat) : Nat := tS tlt b n (tS tbl b n p)
abbrev tde (p : Nat) : Nat := tS tdg b n (tS tbl b n p)
abbrev twd (p : Nat) : List Int := tw b (tS tbl b n p) (tS tlt b n (tS tbl b n p))
def tval (p k : Nat) : Int ⊕ (Nat × Int) :=
  if tdg (tsg b n (tsk b n p)) = true then
    (if 5 < tde b n p - tsk b n p then .inl (1 + 8 * (tsk b n p : Int) + 1) else if 60 ≤ k then .inl (1 + 8 * (tsk b n p : Int) + 3) else .inr (tde b n p, 40 + tv b (tsk b n p) (tde b n p - tsk b n p)))
  else match tix (twd b n p) tw1004 with
    | none => .inl (1 + 8 * (tsk b n p : Int))
    | some u => if 60 ≤ k then .inl (1 + 8 * (tsk b n p : Int) + 3) else .inr (tle b n p, 20 + (u : Int))
def tvs (p k : Nat) (out wait : List Int) (cl wh : Nat) : Int ⊕ tSt := match tval b n p k with
  | .inl f => .inl f
  | .inr x => .inr (x.1, k + 1, x.2 :: out, wait, cl, 3, wh)
def tendc (a : Int) (p k : Nat) (out wait : List Int) (cl wh : Nat) : Int ⊕ tSt :=
  if tsg b n (tsk b n p) = 59 then .inr (tsk b n p + 1, k, a :: (tSe 1 wait out).1, (tSe 1 wait out).2.1, cl, 0, wh)
  else if tsg b n (tsk b n p) = -1 then .inr (tsk b n p, k, a :: (tSe 1 wait out).1, (tSe 1 wait out).2.1, cl, 4, wh)
  else .inl (1 + 8 * (tsk b n p : Int))
def tlnd (p k : Nat) (out wait : List Int) (cl : Nat) : Int ⊕ tSt := match tix (twd b n p) tw1002 with
  | none => .inl (1 + 8 * (tsk b n p : Int))
  | some _ => if 12 ≤ cl then .inl (1 + 8 * (tsk b n p : Int) + 4) else .inr (tle b n p, k, out, wait, cl + 1, 2, 0)
def tfac (p k : Nat) (out wait : List Int) (cl wh : Nat) : Int ⊕ tSt :=
  if tsg b n (tsk b n p) = 91 then (if 10 ≤ tdp wait then .inl (1 + 8 * (tsk b n p : Int) + 2) else .inr (tsk b n p + 1, k, out, 0 :: wait, cl, 1, wh))
  else match tix (twd b n p) tw1003 with
    | some _ => if 10 ≤ tdp wait then .inl (1 + 8 * (tsk b n p : Int) + 2) else .inr (tle b n p, k, out, 3 :: wait, cl, 1, wh)
    | none => tvs b n p k out wait cl 1
def tsig (p k : Nat) (out wait : List Int) (cl : Nat) : Int ⊕ tSt :=
  if tsg b n (tsk b n p) = 60 ∨ tsg b n (tsk b n p) = 61 ∨ tsg b n (tsk b n p) = 62 then
    (if 60 ≤ k then .inl (1 + 8 * (tsk b n p : Int) + 3)
    else if tsg b n (tsk b n p) = 61 then .inr (tsk b n p + 1, k + 1, (tSe 6 wait out).1, 6 :: (tSe 6 wait out).2.1, cl, 2, 2)
    else if tsg b n (tsk b n p + 1) = 61 then .inr (tsk b n p + 2, k + 1, (tSe (if tsg b n (tsk b n p) = 60 then 5 else 7) wait out).1, (if tsg b n (tsk b n p) = 60 then 5 else 7) :: (tSe (if tsg b n (tsk b n p) = 60 then 5 else 7) wait out).2.1, cl, 2, 2)
    else .inr (tsk b n p + 1, k + 1, (tSe (if tsg b n (tsk b n p) = 60 then 4 else 8) wait out).1, (if tsg b n (tsk b n p) = 60 then 4 else 8) :: (tSe (if tsg b n (tsk b n p) = 60 then 4 else 8) wait out).2.1, cl, 2, 2))
  else .inl (1 + 8 * (tsk b n p : Int))
def tenf (p k : Nat) (out wait : List Int) (cl wh : Nat) : Int ⊕ tSt := match tix (twd b n p) tw1006 with
  | some u => .inr (tle b n p, k, (tSe (if u = 0 then 2 else 1) wait out).1, (if u = 0 then 2 else 1) :: (tSe (if u = 0 then 2 else 1) wait out).2.1, cl, 1, wh)
  | none => if tbr wait = 0 then tendc b n 15 p k out wait cl wh else if tsg b n (tsk b n p) = 93 then .inr (tsk b n p + 1, k, (tSe 1 wait out).1, (tSe 1 wait out).2.1.tail, cl, 3, 3) else .inl (1 + 8 * (tsk b n p : Int))
def tena (p k : Nat) (out wait : List Int) (cl wh : Nat) : Int ⊕ tSt := match tix (twd b n p) tw1005 with
  | some _ => .inr (tle b n p, k, (tSe 1 wait out).1, (tSe 1 wait out).2.1, cl, 1, wh)
  | none => tendc b n 14 p k out wait cl wh
def tjnt (p k : Nat) (out wait : List Int) (cl wh : Nat) : Int ⊕ tSt :=
  if wh ≠ 3 ∧ topr (tsg b n (tsk b n p)) ≠ -1 then .inr (tsk b n p + 1, k, (tSe (topr (tsg b n (tsk b n p))) wait out).1, topr (tsg b n (tsk b n p)) :: (tSe (topr (tsg b n (tsk b n p))) wait out).2.1, cl, 2, wh)
  else if wh = 0 then tena b n p k out wait cl wh
  else if wh = 1 then tsig b n p k out wait cl
  else tenf b n p k out wait cl wh
def tstp (s : tSt) : Int ⊕ tSt :=
  if s.2.2.2.2.2.1 = 0 then tlnd b n s.1 s.2.1 s.2.2.1 s.2.2.2.1 s.2.2.2.2.1
  else if s.2.2.2.2.2.1 = 1 then tfac b n s.1 s.2.1 s.2.2.1 s.2.2.2.1 s.2.2.2.2.1 s.2.2.2.2.2.2
  else if s.2.2.2.2.2.1 = 2 then tvs b n s.1 s.2.1 s.2.2.1 s.2.2.2.1 s.2.2.2.2.1 s.2.2.2.2.2.2
  else if s.2.2.2.2.2.1 = 3 then tjnt b n s.1 s.2.1 s.2.2.1 s.2.2.2.1 s.2.2.2.2.1 s.2.2.2.2.2.2
  else .inl 0
end TMAC
theorem tSe_len (o : Int) : ∀ (ws out : List Int), (tSe o ws out).1.length + (tSe o ws out).2.1.length = out.length + ws.length := by
  intro ws
  induction ws with
  | nil => intro out; rfl
  | cons w ws ih =>
    intro out
    unfold tSe
    split
    · have := ih (w :: out)
      rw [List.length_cons] at this
      rw [List.length_cons]
      dsimp only
      omega
    · rfl
theorem tSe_sub (o : Int) : ∀ (ws out : List Int), ∀ w ∈ (tSe o ws out).2.1, w ∈ ws := by
  intro ws
  induction ws with
  | nil => intro out w h; exact h
  | cons v ws ih =>
    intro out w h
    unfold tSe at h
    split at h
    · exact List.mem_cons_of_mem _ (ih _ w h)
    · exact h
theorem tSe_dp {o : Int} (ho : 1 ≤ tcl o) : ∀ (ws out : List Int), tdp ws = tdp (tSe o ws out).2.1 + (tSe o ws out).2.2 ∧ tbr ws = tbr (tSe o ws out).2.1 := by
  intro ws
  induction ws with
  | nil => intro out; exact ⟨rfl, rfl⟩
  | cons w ws ih =>
    intro out
    unfold tSe
    split
    · next c =>
      obtain ⟨a1, a2⟩ := ih (w :: out)
      have w0 : w ≠ 0 := fun z => by
        rw [z] at c
        have : tcl 0 = 0 := rfl
        omega
      constructor
      · show (if w = 0 ∨ w = 3 then 1 else 0) + tdp ws = _
        dsimp only
        by_cases z : w = 3
        · rw [if_pos (Or.inr z), if_pos z]
          omega
        · rw [if_neg (fun y => y.elim w0 z), if_neg z]
          omega
      · show (if w = 0 then 1 else 0) + tbr ws = _
        rw [if_neg w0, a2, Nat.zero_add]
    · exact ⟨rfl, rfl⟩
/-- the first that stays waiting binds less -/
theorem tSe_hd (o : Int) : ∀ (ws out : List Int) (w : Int) (vs : List Int), (tSe o ws out).2.1 = w :: vs → tcl w < tcl o := by
  intro ws
  induction ws with
  | nil => intro out w vs h; cases h
  | cons u ws ih =>
    intro out w vs h
    unfold tSe at h
    split at h
    · exact ih _ w vs h
    · next c =>
      have h : u :: ws = w :: vs := h
      rw [← (List.cons.inj h).1]
      omega
theorem tdp_len : ∀ ws : List Int, tdp ws ≤ ws.length := by
  intro ws
  induction ws with
  | nil => exact Nat.le_refl _
  | cons w ws ih =>
    show (if w = 0 ∨ w = 3 then 1 else 0) + tdp ws ≤ ws.length + 1
    split <;> omega
theorem tbr_len : ∀ ws : List Int, tbr ws ≤ ws.length := by
  intro ws
  induction ws with
  | nil => exact Nat.le_refl _
  | cons w ws ih =>
    show (if w = 0 then 1 else 0) + tbr ws ≤ ws.length + 1
    split <;> omega
