/-! What the machine holds at all times: whole clauses, typed; the clause under way. -/
/-- a whole clause: the sum's steps, the test's (the last first) -/
def tyC (q : List Int × Option (List Int)) : Prop := tyR q.1 [] = some [false] ∧ (match q.2 with
  | none => True
  | some ct => tyR ct [] = some [true])
/-- their steps, the last first -/
def outOf : List (List Int × Option (List Int)) → List Int
  | [] => []
  | (cs, none) :: r => 14 :: (cs ++ outOf r)
  | (cs, some ct) :: r => 15 :: (ct ++ (cs ++ outOf r))
/-- what waits in a test -/
def wTe (wait : List Int) (wh : Nat) : Prop := ∃ A C G : List Int, wait = A ++ (C ++ G) ∧ (∀ a ∈ A, ari a) ∧ (∀ g ∈ G, lgc g) ∧ ((wh = 1 ∧ C = []) ∨ (wh = 2 ∧ ∃ c, sgn c ∧ C = [c]) ∨ (wh = 3 ∧ A = [] ∧ C = []))
def tInv (s : tSt) : Prop := ∃ Q : List (List Int × Option (List Int)), (∀ q ∈ Q, tyC q) ∧
  (((s.2.2.2.2.2.1 = 0 ∨ s.2.2.2.2.2.1 = 4) ∧ s.2.2.1 = outOf Q ∧ s.2.2.2.1 = []) ∨
  (s.2.2.2.2.2.2 = 0 ∧ (s.2.2.2.2.2.1 = 2 ∨ s.2.2.2.2.2.1 = 3) ∧ ∃ cur, s.2.2.1 = cur ++ outOf Q ∧ (∀ a ∈ s.2.2.2.1, ari a) ∧ tyR cur [] = some ((if s.2.2.2.2.2.1 = 3 then [false] else []) ++ shp s.2.2.2.1)) ∨
  (∃ ct cs, s.2.2.1 = ct ++ (cs ++ outOf Q) ∧ tyR cs [] = some [false] ∧
    ((s.2.2.2.2.2.1 = 1 ∧ (∀ g ∈ s.2.2.2.1, lgc g) ∧ tyR ct [] = some (shp s.2.2.2.1 ++ [])) ∨
    (s.2.2.2.2.2.1 = 2 ∧ s.2.2.2.2.2.2 ≠ 3 ∧ wTe s.2.2.2.1 s.2.2.2.2.2.2 ∧ tyR ct [] = some (shp s.2.2.2.1 ++ [])) ∨
    (s.2.2.2.2.2.1 = 3 ∧ wTe s.2.2.2.1 s.2.2.2.2.2.2 ∧ tyR ct [] = some ((if s.2.2.2.2.2.2 = 3 then true else false) :: (shp s.2.2.2.1 ++ []))))))
section PINV
variable {b : Nat → Int} {n : Nat}
theorem shp_app : ∀ {a c : List Int}, shp (a ++ c) = shp a ++ shp c
  | [], _ => rfl
  | w :: a, c => by
    show _ ++ shp (a ++ c) = (_ ++ shp a) ++ shp c
    rw [shp_app (a := a), List.append_assoc]
theorem tI_lnd {p k cl : Nat} {out wait : List Int} {wh : Nat} {s' : tSt} (h : tInv (p, k, out, wait, cl, 0, wh)) (e : tlnd b n p k out wait cl = .inr s') : tInv s' := by
  obtain ⟨Q, hQ, h⟩ := h
  have h : out = outOf Q ∧ wait = [] := by
    rcases h with h | h | ⟨ct, cs, -, -, h⟩
    · exact h.2
    · rcases h.2.1 with z | z <;> exact absurd z (by decide : ¬ (0 : Nat) = _)
    · rcases h with h | h | h <;> exact absurd h.1 (by decide : ¬ (0 : Nat) = _)
  obtain ⟨rfl, rfl⟩ := h
  unfold tlnd at e
  split at e
  · cases e
  · split at e
    · cases e
    · cases e
      exact ⟨Q, hQ, Or.inr (Or.inl ⟨rfl, Or.inl rfl, [], rfl, fun a ha => (by cases ha), rfl⟩)⟩
/-- a clause ends -/
theorem tI_end {a : Int} {p k cl wh : Nat} {out wait : List Int} {s' : tSt} {Q : List (List Int × Option (List Int))} {q : List Int × Option (List Int)} (hQ : ∀ q ∈ Q, tyC q) (hq : tyC q) (ho : a :: (tSe 1 wait out).1 = outOf (q :: Q)) (hw : (tSe 1 wait out).2.1 = []) (e : tendc b n a p k out wait cl wh = .inr s') : tInv s' := by
  unfold tendc at e
  have H : ∀ x ∈ q :: Q, tyC x := fun x hx => (List.mem_cons.mp hx).elim (fun z => z ▸ hq) (hQ x)
  split at e
  · cases e
    exact ⟨q :: Q, H, Or.inl ⟨Or.inl rfl, ho, hw⟩⟩
  · split at e
    · cases e
      exact ⟨q :: Q, H, Or.inl ⟨Or.inr rfl, ho, hw⟩⟩
    · cases e
/-- nothing waits that binds: all is settled -/
theorem se_nil {A : List Int} (hA : ∀ a ∈ A, ari a) {out : List Int} : (tSe 1 A out).2.1 = [] := by
  have z := tSe_app (o := 1) (ws := []) (fun w vs h => by cases h) A out (fun a ha => by
    have := tcl_ari (hA a ha)
    have e : tcl 1 = 1 := rfl
    omega)
  rw [List.append_nil] at z
  exact z.2
/-- the answer's sum ends -/
theorem tI_ena {p k cl : Nat} {out wait : List Int} {s' : tSt} (h : tInv (p, k, out, wait, cl, 3, 0)) (e : tena b n p k out wait cl 0 = .inr s') : tInv s' := by
  obtain ⟨Q, hQ, h⟩ := h
  have h : ∃ cur, out = cur ++ outOf Q ∧ (∀ a ∈ wait, ari a) ∧ tyR cur [] = some ([false] ++ shp wait) := by
    rcases h with h | h | ⟨ct, cs, -, -, h⟩
    · rcases h.1 with z | z <;> exact absurd z (by decide : ¬ (3 : Nat) = _)
    · exact h.2.2
    · rcases h with h | h | h
      · exact absurd h.1 (by decide : ¬ (3 : Nat) = _)
      · exact absurd h.1 (by decide : ¬ (3 : Nat) = _)
      · obtain ⟨-, ⟨A, C, G, -, -, -, w⟩, -⟩ := h
        rcases w with w | w | w <;> exact absurd w.1 (by decide : ¬ (0 : Nat) = _)
  obtain ⟨cur, rfl, hA, hc⟩ := h
  have so := tSe_out 1 wait cur (outOf Q)
  have al := se_all (base := []) (o := 1) (R := []) (by decide) (A := wait) (out := cur) hA (by rw [List.append_nil, List.append_nil]; exact hc)
  rw [List.append_nil] at al
  have e1 : (tSe 1 wait cur).1 = wait.reverse ++ cur := al.1
  have ty : tyR (tSe 1 wait cur).1 [] = some [false] := by
    rw [e1]
    exact al.2.2
  unfold tena at e
  split at e
  · cases e
    refine ⟨Q, hQ, Or.inr (Or.inr ⟨[], (tSe 1 wait cur).1, so.1, ty, Or.inl ⟨rfl, ?_, ?_⟩⟩)⟩
    · show ∀ g ∈ (tSe 1 wait (cur ++ outOf Q)).2.1, lgc g
      rw [se_nil hA]
      intro g hg
      cases hg
    · show tyR [] [] = some (shp (tSe 1 wait (cur ++ outOf Q)).2.1 ++ [])
      rw [se_nil hA]
      rfl
  · exact tI_end (q := ((tSe 1 wait cur).1, none)) hQ ⟨ty, trivial⟩ (by rw [so.1]; rfl) (se_nil hA) e
/-- a value's step is a number or a word -/
theorem val20 {p k : Nat} {x : Nat × Int} (e : tval b n p k = .inr x) : 20 ≤ x.2 := by
  unfold tval at e
  split at e
  · split at e
    · cases e
    · next h5 =>
      split at e
      · cases e
      · cases e
        have z := (tv_b (b := b) (p := tsk b n p) (n := tde b n p - tsk b n p) (fun j h1 h2 h3 => by
          have g : tsk b n p ≤ tde b n p := tS_ge _
          have := (tS_in (P := tdg) (tsk b n p) j h1 (show j < tde b n p by omega)).2
          unfold tdg at this
          simpa using this) (tde b n p - tsk b n p) (by omega) (Nat.le_refl _)).1
        show 20 ≤ 40 + tv b (tsk b n p) (tde b n p - tsk b n p)
        omega
  · split at e
    · cases e
    · split at e
      · cases e
      · cases e
        show (20 : Int) ≤ 20 + _
        omega
/-- a value in an answer -/
theorem tI_va0 {p k cl : Nat} {out wait : List Int} {s' : tSt} (h : tInv (p, k, out, wait, cl, 2, 0)) (e : tvs b n p k out wait cl 0 = .inr s') : tInv s' := by
  obtain ⟨Q, hQ, h⟩ := h
  have h : ∃ cur, out = cur ++ outOf Q ∧ (∀ a ∈ wait, ari a) ∧ tyR cur [] = some ([] ++ shp wait) := by
    rcases h with h | h | ⟨ct, cs, -, -, h⟩
    · rcases h.1 with z | z <;> exact absurd z (by decide : ¬ (2 : Nat) = _)
    · exact h.2.2
    · rcases h with h | h | h
      · exact absurd h.1 (by decide : ¬ (2 : Nat) = _)
      · obtain ⟨-, -, ⟨A, C, G, -, -, -, w⟩, -⟩ := h
        rcases w with w | w | w <;> exact absurd w.1 (by decide : ¬ (0 : Nat) = _)
      · exact absurd h.1 (by decide : ¬ (2 : Nat) = _)
  obtain ⟨cur, rfl, hA, hc⟩ := h
  unfold tvs at e
  split at e
  · cases e
  · next x hx =>
    cases e
    refine ⟨Q, hQ, Or.inr (Or.inl ⟨rfl, Or.inr rfl, x.2 :: cur, rfl, hA, ?_⟩)⟩
    show (tyR cur []).bind (tyS x.2) = _
    rw [hc]
    exact ty_val (val20 hx)
/-- a value in a test: behind what waits -/
theorem tI_vat {p k cl wh : Nat} {out wait : List Int} {s' : tSt} {Q : List (List Int × Option (List Int))} {ct cs : List Int} (hQ : ∀ q ∈ Q, tyC q) (ho : out = ct ++ (cs ++ outOf Q)) (hs : tyR cs [] = some [false]) (hw : wTe wait wh) (h3 : wh ≠ 3) (hc : tyR ct [] = some (shp wait ++ [])) (e : tvs b n p k out wait cl wh = .inr s') : tInv s' := by
  unfold tvs at e
  split at e
  · cases e
  · next x hx =>
    cases e
    subst ho
    refine ⟨Q, hQ, Or.inr (Or.inr ⟨x.2 :: ct, cs, rfl, hs, Or.inr (Or.inr ⟨rfl, hw, ?_⟩)⟩)⟩
    show (tyR ct []).bind (tyS x.2) = some ((if wh = 3 then true else false) :: _)
    rw [hc, if_neg h3]
    exact ty_val (val20 hx)
theorem tI_fac {p k cl wh : Nat} {out wait : List Int} {s' : tSt} (h : tInv (p, k, out, wait, cl, 1, wh)) (e : tfac b n p k out wait cl wh = .inr s') : tInv s' := by
  obtain ⟨Q, hQ, h⟩ := h
  have h : ∃ ct cs, out = ct ++ (cs ++ outOf Q) ∧ tyR cs [] = some [false] ∧ (∀ g ∈ wait, lgc g) ∧ tyR ct [] = some (shp wait ++ []) := by
    rcases h with h | h | ⟨ct, cs, h1, h2, h⟩
    · rcases h.1 with z | z <;> exact absurd z (by decide : ¬ (1 : Nat) = _)
    · rcases h.2.1 with z | z <;> exact absurd z (by decide : ¬ (1 : Nat) = _)
    · rcases h with h | h | h
      · exact ⟨ct, cs, h1, h2, h.2⟩
      · exact absurd h.1 (by decide : ¬ (1 : Nat) = _)
      · exact absurd h.1 (by decide : ¬ (1 : Nat) = _)
  obtain ⟨ct, cs, ho, hs, hg, hc⟩ := h
  unfold tfac at e
  split at e
  · split at e
    · cases e
    · cases e
      exact ⟨Q, hQ, Or.inr (Or.inr ⟨ct, cs, ho, hs, Or.inl ⟨rfl, fun g hx => (List.mem_cons.mp hx).elim (fun z => z ▸ ⟨by decide, by decide⟩) (hg g), by show _ = some (shp (0 :: wait) ++ []); rw [shp_no (Or.inl rfl)]; exact hc⟩⟩)⟩
  · split at e
    · split at e
      · cases e
      · cases e
        exact ⟨Q, hQ, Or.inr (Or.inr ⟨ct, cs, ho, hs, Or.inl ⟨rfl, fun g hx => (List.mem_cons.mp hx).elim (fun z => z ▸ ⟨by decide, by decide⟩) (hg g), by show _ = some (shp (3 :: wait) ++ []); rw [shp_no (Or.inr rfl)]; exact hc⟩⟩)⟩
    · exact tI_vat hQ ho hs ⟨[], [], wait, rfl, fun a ha => (by cases ha), hg, Or.inl ⟨rfl, rfl⟩⟩ (by decide) hc e
theorem topr_a {c : Int} (h : topr c ≠ -1) : ari (topr c) := by
  unfold topr at h ⊢
  split
  · exact ⟨by decide, by decide⟩
  · next h1 =>
    rw [if_neg h1] at h
    split
    · exact ⟨by decide, by decide⟩
    · next h2 =>
      rw [if_neg h2] at h
      split
      · exact ⟨by decide, by decide⟩
      · next h3 =>
        rw [if_neg h3] at h
        split
        · exact ⟨by decide, by decide⟩
        · next h4 =>
          rw [if_neg h4] at h
          split
          · exact ⟨by decide, by decide⟩
          · next h5 =>
            rw [if_neg h5] at h
            exact absurd rfl h
theorem tcl_ar2 {o : Int} (h : ari o) : 9 ≤ tcl o := tcl_ari h
/-- an arithmetic sign, in an answer -/
theorem tI_jo0 {o : Int} {p k cl : Nat} {out wait : List Int} (ho : ari o) (h : tInv (p, k, out, wait, cl, 3, 0)) {p' : Nat} : tInv (p', k, (tSe o wait out).1, o :: (tSe o wait out).2.1, cl, 2, 0) := by
  obtain ⟨Q, hQ, h⟩ := h
  have h : ∃ cur, out = cur ++ outOf Q ∧ (∀ a ∈ wait, ari a) ∧ tyR cur [] = some ([false] ++ shp wait) := by
    rcases h with h | h | ⟨ct, cs, -, -, h⟩
    · rcases h.1 with z | z <;> exact absurd z (by decide : ¬ (3 : Nat) = _)
    · exact h.2.2
    · rcases h with h | h | h
      · exact absurd h.1 (by decide : ¬ (3 : Nat) = _)
      · exact absurd h.1 (by decide : ¬ (3 : Nat) = _)
      · obtain ⟨-, ⟨A, C, G, -, -, -, w⟩, -⟩ := h
        rcases w with w | w | w <;> exact absurd w.1 (by decide : ¬ (0 : Nat) = _)
  obtain ⟨cur, rfl, hA, hc⟩ := h
  have so := tSe_out o wait cur (outOf Q)
  obtain ⟨A', k1, k2, k3⟩ := se_ari (base := []) (o := o) (R := []) (fun r hr => (by cases hr)) (A := wait) (out := cur) hA (by rw [List.append_nil, List.append_nil]; exact hc)
  rw [List.append_nil] at k1 k3
  refine ⟨Q, hQ, Or.inr (Or.inl ⟨rfl, Or.inl rfl, (tSe o wait cur).1, so.1, ?_, ?_⟩)⟩
  · show ∀ a ∈ o :: (tSe o wait (cur ++ outOf Q)).2.1, ari a
    rw [so.2, k1, List.append_nil]
    exact fun a ha => (List.mem_cons.mp ha).elim (fun z => z ▸ ho) (k2 a)
  · show tyR (tSe o wait cur).1 [] = some ([] ++ shp (o :: (tSe o wait (cur ++ outOf Q)).2.1))
    rw [so.2, k1, List.append_nil, shp_ari (by omega), k3, List.append_nil, List.append_nil]
    rfl
/-- what a joint in a test holds -/
theorem tI_te {p k cl wh : Nat} {out wait : List Int} (h0 : wh ≠ 0) (h : tInv (p, k, out, wait, cl, 3, wh)) : ∃ (Q : List (List Int × Option (List Int))) (ct cs : List Int), (∀ q ∈ Q, tyC q) ∧ out = ct ++ (cs ++ outOf Q) ∧ tyR cs [] = some [false] ∧ wTe wait wh ∧ tyR ct [] = some ((if wh = 3 then true else false) :: (shp wait ++ [])) := by
  obtain ⟨Q, hQ, h⟩ := h
  rcases h with h | h | ⟨ct, cs, h1, h2, h⟩
  · rcases h.1 with z | z <;> exact absurd z (by decide : ¬ (3 : Nat) = _)
  · exact absurd h.1 h0
  · rcases h with h | h | h
    · exact absurd h.1 (by decide : ¬ (3 : Nat) = _)
    · exact absurd h.1 (by decide : ¬ (3 : Nat) = _)
    · exact ⟨Q, ct, cs, hQ, h1, h2, h.2.1, h.2.2⟩
theorem tI_jo {o : Int} {p k cl wh : Nat} {out wait : List Int} (ho : ari o) (h0 : wh ≠ 0) (h3 : wh ≠ 3) (h : tInv (p, k, out, wait, cl, 3, wh)) {p' : Nat} : tInv (p', k, (tSe o wait out).1, o :: (tSe o wait out).2.1, cl, 2, wh) := by
  obtain ⟨Q, ct, cs, hQ, rfl, hs, ⟨A, C, G, rfl, hA, hG, hw⟩, hc⟩ := tI_te h0 h
  rw [if_neg h3] at hc
  have so := tSe_out o (A ++ (C ++ G)) ct (cs ++ outOf Q)
  have hR : ∀ r ∈ C ++ G, tcl r < tcl o := fun r hr => by
    have := tcl_ari ho
    rcases List.mem_append.mp hr with z | z
    · rcases hw with w | ⟨-, c, hc3, rfl⟩ | w
      · rw [w.2] at z
        cases z
      · have : r = c := by simpa using z
        rw [this, tcl_sgn hc3]
        omega
      · rw [w.2.2] at z
        cases z
    · have g := hG r z
      rw [tcl_lg g]
      omega
  obtain ⟨A', k1, k2, k3⟩ := se_ari (base := []) hR (A := A) (out := ct) hA hc
  refine ⟨Q, hQ, Or.inr (Or.inr ⟨(tSe o (A ++ (C ++ G)) ct).1, cs, so.1, hs, Or.inr (Or.inl ⟨rfl, h3, ⟨o :: A', C, G, ?_, fun a ha => (List.mem_cons.mp ha).elim (fun z => z ▸ ho) (k2 a), hG, ?_⟩, ?_⟩)⟩)⟩
  · show o :: (tSe o (A ++ (C ++ G)) (ct ++ (cs ++ outOf Q))).2.1 = _
    rw [so.2, k1]
    rfl
  · rcases hw with w | w | w
    · exact Or.inl w
    · exact Or.inr (Or.inl w)
    · exact absurd w.1 h3
  · show tyR (tSe o (A ++ (C ++ G)) ct).1 [] = some (shp (o :: (tSe o (A ++ (C ++ G)) (ct ++ (cs ++ outOf Q))).2.1) ++ [])
    rw [so.2, k1, shp_ari (by omega), k3]
    rfl
/-- a sign of comparing -/
theorem tI_sg {o : Int} {p k cl : Nat} {out wait : List Int} (ho : sgn o) (h : tInv (p, k, out, wait, cl, 3, 1)) {p' k' : Nat} : tInv (p', k', (tSe o wait out).1, o :: (tSe o wait out).2.1, cl, 2, 2) := by
  obtain ⟨Q, ct, cs, hQ, rfl, hs, ⟨A, C, G, rfl, hA, hG, hw⟩, hc⟩ := tI_te (by decide) h
  have hC : C = [] := by
    rcases hw with w | w | w
    · exact w.2
    · exact absurd w.1 (by decide)
    · exact absurd w.1 (by decide)
  subst hC
  rw [List.nil_append] at hc ⊢
  have so := tSe_out o (A ++ G) ct (cs ++ outOf Q)
  have al := se_all (base := []) (o := o) (R := G) (by rw [tcl_sgn ho]; decide) (A := A) (out := ct) hA hc
  have st : tSe o G (A.reverse ++ ct) = (A.reverse ++ ct, G, 0) := by
    cases G with
    | nil => rfl
    | cons g G =>
      have g1 := hG g (List.mem_cons_self ..)
      unfold tSe
      exact if_neg (by rw [tcl_sgn ho, tcl_lg g1]; omega)
  rw [st] at al
  obtain ⟨k1, k2, k3⟩ := al
  have k1 : (tSe o (A ++ G) ct).1 = A.reverse ++ ct := k1
  have k2 : (tSe o (A ++ G) ct).2.1 = G := k2
  refine ⟨Q, hQ, Or.inr (Or.inr ⟨(tSe o (A ++ G) ct).1, cs, so.1, hs, Or.inr (Or.inl ⟨rfl, by show (2 : Nat) ≠ 3; decide, ⟨[], [o], G, ?_, fun a ha => (by cases ha), hG, Or.inr (Or.inl ⟨rfl, o, ho, rfl⟩)⟩, ?_⟩)⟩)⟩
  · show o :: (tSe o (A ++ G) (ct ++ (cs ++ outOf Q))).2.1 = _
    rw [so.2, k2]
    rfl
  · show tyR (tSe o (A ++ G) ct).1 [] = some (shp (o :: (tSe o (A ++ G) (ct ++ (cs ++ outOf Q))).2.1) ++ [])
    rw [so.2, k2, shp_ari (by omega), k1, k3]
    rfl
/-- a test's fact is settled: a truth -/
theorem se_tr {o : Int} {wait ct : List Int} {wh : Nat} (ho : o = 1 ∨ o = 2) (h1 : wh ≠ 1) (hw : wTe wait wh) (hc : tyR ct [] = some ((if wh = 3 then true else false) :: (shp wait ++ []))) : ∃ G : List Int, (tSe o wait ct).2.1 = G ∧ (∀ g ∈ G, lgc g) ∧ tyR (tSe o wait ct).1 [] = some (true :: (shp G ++ [])) := by
  obtain ⟨A, C, G, rfl, hA, hG, hw⟩ := hw
  have to : tcl o = o := tcl_lg (by rcases ho with y | y <;> rw [y] <;> exact ⟨by decide, by decide⟩)
  have t9 : tcl o ≤ 9 := by rw [to]; rcases ho with y | y <;> rw [y] <;> decide
  rcases hw with w | ⟨w2, c, hc2, rfl⟩ | ⟨w3, rfl, rfl⟩
  · exact absurd w.1 h1
  · rw [if_neg (show ¬ wh = 3 by rw [w2]; decide)] at hc
    obtain ⟨k1, k2, k3⟩ := se_all (base := []) (o := o) (R := [c] ++ G) t9 (A := A) (out := ct) hA hc
    have e := tSe_c (o := o) (a := c) (x := G) (out := A.reverse ++ ct) (by rw [tcl_sgn hc2, to]; rcases ho with y | y <;> rw [y] <;> decide)
    have t2 : tyR (c :: (A.reverse ++ ct)) [] = some (true :: (shp G ++ [])) := by
      show (tyR (A.reverse ++ ct) []).bind (tyS c) = _
      rw [k3]
      show tyS c (false :: (shp (c :: G) ++ [])) = _
      rw [shp_ari (by omega)]
      exact ty_sgn hc2
    obtain ⟨G', g1, g2, g3⟩ := se_lg ho hG t2
    refine ⟨G', ?_, g2, ?_⟩
    · rw [k2]
      exact e.2.trans g1
    · rw [k1]
      show tyR (tSe o (c :: G) (A.reverse ++ ct)).1 [] = _
      rw [e.1]
      exact g3
  · rw [if_pos w3] at hc
    exact se_lg ho hG hc
/-- a fact ends -/
theorem tI_enf {p k cl wh : Nat} {out wait : List Int} {s' : tSt} (h0 : wh ≠ 0) (h1 : wh ≠ 1) (h : tInv (p, k, out, wait, cl, 3, wh)) (e : tenf b n p k out wait cl wh = .inr s') : tInv s' := by
  obtain ⟨Q, ct, cs, hQ, rfl, hs, hw, hc⟩ := tI_te h0 h
  unfold tenf at e
  split at e
  · next u hu =>
    cases e
    have ho : (if u = 0 then (2 : Int) else 1) = 1 ∨ (if u = 0 then (2 : Int) else 1) = 2 := by
      split
      · exact Or.inr rfl
      · exact Or.inl rfl
    generalize (if u = 0 then (2 : Int) else 1) = o at ho
    have so := tSe_out o wait ct (cs ++ outOf Q)
    obtain ⟨G, k1, k2, k3⟩ := se_tr ho h1 hw hc
    refine ⟨Q, hQ, Or.inr (Or.inr ⟨(tSe o wait ct).1, cs, so.1, hs, Or.inl ⟨rfl, ?_, ?_⟩⟩)⟩
    · show ∀ g ∈ o :: (tSe o wait (ct ++ (cs ++ outOf Q))).2.1, lgc g
      rw [so.2, k1]
      exact fun g hg => (List.mem_cons.mp hg).elim (fun z => by rw [z]; rcases ho with y | y <;> rw [y] <;> exact ⟨by decide, by decide⟩) (k2 g)
    · show tyR (tSe o wait ct).1 [] = some (shp (o :: (tSe o wait (ct ++ (cs ++ outOf Q))).2.1) ++ [])
      rw [so.2, k1, shp_lg ho, k3]
      rfl
  · have so := tSe_out 1 wait ct (cs ++ outOf Q)
    obtain ⟨G, k1, k2, k3⟩ := se_tr (o := 1) (Or.inl rfl) h1 hw hc
    have hd := tSe_hd 1 wait ct
    have z0 : ∀ w vs, G = w :: vs → w = 0 := fun w vs hh => by
      have z := hd w vs (k1.trans hh)
      have g := k2 w (by rw [hh]; exact List.mem_cons_self ..)
      have e11 : tcl 1 = 1 := rfl
      rw [tcl_lg g] at z
      omega
    split at e
    · next t0 =>
      have G0 : G = [] := by
        cases hG : G with
        | nil => rfl
        | cons w vs =>
          exfalso
          have w0 := z0 w vs hG
          have mem := tSe_sub 1 wait ct w (by rw [k1, hG]; exact List.mem_cons_self ..)
          exact (tbr_0 wait).mp t0 w mem w0
      rw [G0] at k1 k3
      exact tI_end (q := (cs, some (tSe 1 wait ct).1)) hQ ⟨hs, k3⟩ (by rw [so.1]; rfl) (by rw [so.2, k1]) e
    · split at e
      · cases e
        have tl : (∀ g ∈ G.tail, lgc g) ∧ shp G.tail = shp G := by
          cases hG : G with
          | nil => exact ⟨fun g hg => (by cases hg), rfl⟩
          | cons w vs =>
            have w0 := z0 w vs hG
            refine ⟨fun g hg => k2 g (by rw [hG]; exact List.mem_cons_of_mem _ hg), ?_⟩
            rw [shp_no (Or.inl w0)]
            rfl
        refine ⟨Q, hQ, Or.inr (Or.inr ⟨(tSe 1 wait ct).1, cs, so.1, hs, Or.inr (Or.inr ⟨rfl, ⟨[], [], G.tail, ?_, fun a ha => (by cases ha), tl.1, Or.inr (Or.inr ⟨rfl, rfl, rfl⟩)⟩, ?_⟩)⟩)⟩
        · show (tSe 1 wait (ct ++ (cs ++ outOf Q))).2.1.tail = _
          rw [so.2, k1]
          rfl
        · show tyR (tSe 1 wait ct).1 [] = some (true :: (shp (tSe 1 wait (ct ++ (cs ++ outOf Q))).2.1.tail ++ []))
          rw [so.2, k1, tl.2]
          exact k3
      · cases e
/-- a step of the machine keeps it -/
theorem tI_stp {s s' : tSt} (h : tInv s) (e : tstp b n s = .inr s') : tInv s' := by
  obtain ⟨p, k, out, wait, cl, ex, wh⟩ := s
  unfold tstp at e
  dsimp only at e
  by_cases e0 : ex = 0
  · rw [if_pos e0] at e
    subst e0
    exact tI_lnd h e
  rw [if_neg e0] at e
  by_cases e1 : ex = 1
  · rw [if_pos e1] at e
    subst e1
    exact tI_fac h e
  rw [if_neg e1] at e
  by_cases e2 : ex = 2
  · rw [if_pos e2] at e
    subst e2
    by_cases w0 : wh = 0
    · subst w0
      exact tI_va0 h e
    · obtain ⟨Q, hQ, h⟩ := h
      rcases h with h | h | ⟨ct, cs, h1, h2, h⟩
      · rcases h.1 with z | z <;> exact absurd z (by decide : ¬ (2 : Nat) = _)
      · exact absurd h.1 w0
      · rcases h with h | h | h
        · exact absurd h.1 (by decide : ¬ (2 : Nat) = _)
        · exact tI_vat hQ h1 h2 h.2.2.1 h.2.1 h.2.2.2 e
        · exact absurd h.1 (by decide : ¬ (2 : Nat) = _)
  rw [if_neg e2] at e
  by_cases e3 : ex = 3
  · rw [if_pos e3] at e
    subst e3
    unfold tjnt at e
    split at e
    · next q =>
      cases e
      by_cases w0 : wh = 0
      · subst w0
        exact tI_jo0 (topr_a q.2) h
      · exact tI_jo (topr_a q.2) w0 q.1 h
    · split at e
      · next w0 =>
        subst w0
        exact tI_ena h e
      · next w0 =>
        split at e
        · next w1 =>
          subst w1
          unfold tsig at e
          split at e
          · split at e
            · cases e
            · split at e
              · cases e
                exact tI_sg ⟨by decide, by decide⟩ h
              · split at e
                · cases e
                  exact tI_sg (by split <;> exact ⟨by decide, by decide⟩) h
                · cases e
                  exact tI_sg (by split <;> exact ⟨by decide, by decide⟩) h
          · cases e
        · next w1 => exact tI_enf w0 w1 h e
  · rw [if_neg e3] at e
    cases e
theorem tI_0 : tInv tS0 := ⟨[], fun q hq => (by cases hq), Or.inl ⟨Or.inl rfl, rfl, rfl⟩⟩
theorem tI_stn : ∀ (J : Nat) {s s' : tSt}, tInv s → stn b n J s = .inr s' → tInv s'
  | 0, s, s', h, e => by
    have e : s = s' := Sum.inr.inj e
    rw [← e]
    exact h
  | J + 1, s, s', h, e => by
    have e : (match tstp b n s with
      | .inl f => (Sum.inl f : Int ⊕ tSt)
      | .inr s1 => stn b n J s1) = .inr s' := e
    cases e1 : tstp b n s with
    | inl f =>
      rw [e1] at e
      cases e
    | inr s1 =>
      rw [e1] at e
      exact tI_stn J (tI_stp h e1) e
/-- a rule that is read is whole clauses, typed -/
theorem tI_done {J : Nat} {s : tSt} (e : stn b n J tS0 = .inr s) (h4 : s.2.2.2.2.2.1 = 4) : ∃ Q : List (List Int × Option (List Int)), (∀ q ∈ Q, tyC q) ∧ s.2.2.1 = outOf Q := by
  obtain ⟨Q, hQ, h⟩ := tI_stn J tI_0 e
  rw [h4] at h
  rcases h with h | h | ⟨ct, cs, -, -, h⟩
  · exact ⟨Q, hQ, h.2.1⟩
  · rcases h.2.1 with z | z <;> exact absurd z (by decide : ¬ (4 : Nat) = _)
  · rcases h with h | h | h <;> exact absurd h.1 (by decide : ¬ (4 : Nat) = _)
end PINV
