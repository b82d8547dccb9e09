/-! The class's sum over a rule's steps is the reference's. -/
/-- the class goes through the steps (in order) -/
def csum (w : Nat → Int64) : List Int → List Int64 → Int64
  | [], _ => 0
  | s :: r, st => if s = 14 then st.reverse.getD 0 0 else if s = 15 then (if st.reverse.getD 1 0 ≠ 0 then st.reverse.getD 0 0 else csum w r []) else match sst w s st with
    | some st' => csum w r st'
    | none => csum w r st
/-- what clauses come to, by their steps -/
def sumS (w : Nat → Int64) : List (List Int × Option (List Int)) → Int64
  | [] => 0
  | (cs, none) :: r => sv w cs
  | (cs, some ct) :: r => if sv w ct ≠ 0 then sv w cs else sumS w r
/-- the clauses' codes and steps -/
def qSt (c : List Int32 × Option (List Int32)) (q : List Int × Option (List Int)) : Prop := cSt c.1 q.1 ∧ (match c.2, q.2 with
  | none, none => True
  | some T, some ct => cSt T ct
  | _, _ => False)
def qAll : cLs → List (List Int × Option (List Int)) → Prop
  | [], [] => True
  | c :: cs, q :: qs => qSt c q ∧ qAll cs qs
  | _, _ => False
section PCSM
variable {w : Nat → Int64}
theorem tyR_no : ∀ {out : List Int} {L L' : List Bool}, tyR out L = some L' → ∀ s ∈ out, s ≠ 14 ∧ s ≠ 15
  | [], _, _, _, s, hs => by cases hs
  | x :: out, L, L', t, s, hs => by
    have t : (tyR out L).bind (tyS x) = some L' := t
    obtain ⟨L1, t1, t2⟩ := Option.bind_eq_some_iff.mp t
    rcases List.mem_cons.mp hs with z | z
    · rw [z]
      unfold tyS at t2
      constructor
      · intro y
        rw [y, if_neg (by decide), if_neg (by decide), if_neg (by decide), if_neg (by decide), if_neg (by decide)] at t2
        cases t2
      · intro y
        rw [y, if_neg (by decide), if_neg (by decide), if_neg (by decide), if_neg (by decide), if_neg (by decide)] at t2
        cases t2
    · exact tyR_no t1 s z
theorem csum_run : ∀ {out rest : List Int} {st st' : List Int64}, (∀ s ∈ out, s ≠ 14 ∧ s ≠ 15) → srun w out st = some st' → csum w (out.reverse ++ rest) st = csum w rest st'
  | [], rest, st, st', _, e => by
    have e : st = st' := Option.some.inj e
    rw [e]
    rfl
  | s :: out, rest, st, st', h, e => by
    have e : (srun w out st).bind (sst w s) = some st' := e
    obtain ⟨st1, e1, e2⟩ := Option.bind_eq_some_iff.mp e
    have hs := h s (List.mem_cons_self ..)
    rw [List.reverse_cons, List.append_assoc, csum_run (fun x hx => h x (List.mem_cons_of_mem _ hx)) e1]
    show (if s = 14 then _ else if s = 15 then _ else match sst w s st1 with
      | some st' => csum w rest st'
      | none => csum w rest st1) = _
    rw [if_neg hs.1, if_neg hs.2, e2]
/-- what lies below stays -/
theorem sst_fr {s : Int} {st st' b : List Int64} (e : sst w s st = some st') : sst w s (st ++ b) = some (st' ++ b) := by
  unfold sst at e ⊢
  split at e
  · next h =>
    cases e
    rw [if_pos h]
    rfl
  · next h =>
    rw [if_neg h]
    split at e
    · next h2 =>
      cases e
      rw [if_pos h2]
      rfl
    · next h2 =>
      rw [if_neg h2]
      split at e
      · next h3 =>
        rw [if_pos h3]
        cases st with
        | nil => cases e
        | cons x st =>
          cases e
          rfl
      · next h3 =>
        rw [if_neg h3]
        cases st with
        | nil => cases e
        | cons y st =>
          cases st with
          | nil => cases e
          | cons x st =>
            cases e
            rfl
theorem srun_fr : ∀ {out : List Int} {st st' b : List Int64}, srun w out st = some st' → srun w out (st ++ b) = some (st' ++ b)
  | [], st, st', b, e => by
    have e : st = st' := Option.some.inj e
    rw [e]
    rfl
  | s :: out, st, st', b, e => by
    have e : (srun w out st).bind (sst w s) = some st' := e
    obtain ⟨st1, e1, e2⟩ := Option.bind_eq_some_iff.mp e
    show (srun w out (st ++ b)).bind (sst w s) = _
    rw [srun_fr e1]
    exact sst_fr e2
theorem sv_one {out : List Int} {x : Bool} (t : tyR out [] = some [x]) : srun w out [] = some [sv w out] := by
  obtain ⟨st, k1, k2⟩ := srun_ty (w := w) (st := []) t trivial
  have l := tyV_l k2
  unfold sv
  rw [k1]
  cases st with
  | nil => cases l
  | cons v st =>
    cases st with
    | nil => rfl
    | cons u st => cases l
theorem csum_out : ∀ {Q : List (List Int × Option (List Int))} {rest : List Int}, (∀ q ∈ Q, tyC q) → csum w ((outOf Q).reverse ++ rest) [] = (match (Q.reverse.find? (fun q => match q.2 with
    | none => true
    | some ct => sv w ct != 0)) with
    | some q => sv w q.1
    | none => csum w rest [])
  | [], rest, _ => rfl
  | q :: Q, rest, h => by
    have hq := h q (List.mem_cons_self ..)
    obtain ⟨cs, o⟩ := q
    have t1 : tyR cs [] = some [false] := hq.1
    have s1 := sv_one (w := w) t1
    rw [List.reverse_cons, List.find?_append]
    cases o with
    | none =>
      show csum w ((14 :: (cs ++ outOf Q)).reverse ++ rest) [] = _
      rw [List.reverse_cons, List.reverse_append, List.append_assoc, List.append_assoc, csum_out (fun x hx => h x (List.mem_cons_of_mem _ hx))]
      cases Q.reverse.find? _ with
      | some q => rfl
      | none =>
        rw [csum_run (tyR_no t1) s1]
        rfl
    | some ct =>
      have t2 : tyR ct [] = some [true] := hq.2
      have s2 := sv_one (w := w) t2
      have s3 := srun_fr (b := [sv w cs]) s2
      show csum w ((15 :: (ct ++ (cs ++ outOf Q))).reverse ++ rest) [] = _
      rw [List.reverse_cons, List.reverse_append, List.reverse_append, List.append_assoc, List.append_assoc, List.append_assoc, csum_out (fun x hx => h x (List.mem_cons_of_mem _ hx))]
      cases Q.reverse.find? _ with
      | some q => rfl
      | none =>
        dsimp only [Option.none_or]
        rw [csum_run (tyR_no t1) s1, csum_run (st := [sv w cs]) (tyR_no t2) s3]
        show (if (15 : Int) = 14 then _ else if (15 : Int) = 15 then (if sv w ct ≠ 0 then sv w cs else csum w rest []) else _) = _
        rw [if_neg (by decide), if_pos rfl, List.find?_cons]
        by_cases z : sv w ct = 0
        · have e : (sv w ct != 0) = false := by simp [z]
          rw [if_neg (fun y => y z)]
          dsimp only
          rw [e]
          rfl
        · rw [if_pos z]
          have : (sv w ct != 0) = true := by simp [z]
          dsimp only
          rw [this]
end PCSM
