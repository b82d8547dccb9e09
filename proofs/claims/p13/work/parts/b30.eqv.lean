/-! A rule comes to the same on both sides. -/
section PEQV
variable {w : Nat → Int64}
theorem sumE_q : ∀ {CL : cLs} {qs : List (List Int × Option (List Int))}, qAll CL qs → (∀ q ∈ qs, tyC q) → sumE w CL = (match (qs.find? (fun q => match q.2 with
    | none => true
    | some ct => sv w ct != 0)) with
    | some q => sv w q.1
    | none => 0)
  | [], [], _, _ => rfl
  | [], _ :: _, h, _ => h.elim
  | _ :: _, [], h, _ => h.elim
  | (S, o) :: CL, (cs, p) :: qs, h, t => by
    obtain ⟨⟨h1, h2⟩, h3⟩ := h
    have h1 : cSt S cs := h1
    have ht := t (cs, p) (List.mem_cons_self ..)
    have ih := sumE_q h3 (fun q hq => t q (List.mem_cons_of_mem _ hq))
    rw [List.find?_cons]
    cases o with
    | none =>
      cases p with
      | none => exact ev_sv h1
      | some ct => exact h2.elim
    | some T =>
      cases p with
      | none => exact h2.elim
      | some ct =>
        have h2 : cSt T ct := h2
        have t2 : tyR ct [] = some [true] := ht.2
        show (if ev w T = 1 then ev w S else sumE w CL) = _
        rw [ev_sv h2, ev_sv h1]
        rcases sv_tr (w := w) t2 with z | z
        · have e : (sv w ct != 0) = false := by simp [z]
          rw [if_neg (by rw [z]; decide), ih]
          dsimp only
          rw [e]
        · have e : (sv w ct != 0) = true := by rw [z]; decide
          rw [if_pos z]
          dsimp only
          rw [e]
/-- the reference's sum is the class's -/
theorem sumE_csum {CL : cLs} {Q : List (List Int × Option (List Int))} (h : qAll CL Q.reverse) (t : ∀ q ∈ Q, tyC q) : sumE w CL = csum w (outOf Q).reverse [] := by
  have c := csum_out (w := w) (rest := []) t
  rw [List.append_nil] at c
  rw [c, sumE_q h (fun q hq => t q (List.mem_reverse.mp hq))]
  rfl
end PEQV
