/-! The machine puts at most sixty values. -/
def cnt : List Int → Nat
  | [] => 0
  | s :: out => (if 20 ≤ s then 1 else 0) + cnt out
def tK (s : tSt) : Prop := cnt s.2.2.1 ≤ s.2.1 ∧ s.2.1 ≤ 60 ∧ ∀ w ∈ s.2.2.2.1, w < 20
section PCN
variable {b : Nat → Int} {n : Nat}
theorem cnt_app : ∀ {a c : List Int}, cnt (a ++ c) = cnt a + cnt c
  | [], c => (Nat.zero_add _).symm
  | s :: a, c => by
    show _ + cnt (a ++ c) = _ + cnt a + cnt c
    rw [cnt_app (a := a), Nat.add_assoc]
theorem cnt_se {o : Int} : ∀ {W out : List Int}, (∀ w ∈ W, w < 20) → cnt (tSe o W out).1 = cnt out ∧ ∀ w ∈ (tSe o W out).2.1, w < 20
  | [], out, h => ⟨rfl, h⟩
  | w :: W, out, h => by
    have hw := h w (List.mem_cons_self ..)
    by_cases c : tcl o ≤ tcl w
    · have e := tSe_c (x := W) (out := out) c
      rw [e.1, e.2]
      obtain ⟨k1, k2⟩ := cnt_se (o := o) (W := W) (out := w :: out) (fun x hx => h x (List.mem_cons_of_mem _ hx))
      refine ⟨k1.trans ?_, k2⟩
      show (if 20 ≤ w then 1 else 0) + cnt out = cnt out
      rw [if_neg (by omega), Nat.zero_add]
    · have e : tSe o (w :: W) out = (out, w :: W, 0) := by
        unfold tSe
        exact if_neg c
      rw [e]
      exact ⟨rfl, h⟩
theorem cnt_c {s : Int} {out : List Int} (h : s < 20) : cnt (s :: out) = cnt out := by
  show (if 20 ≤ s then 1 else 0) + cnt out = cnt out
  rw [if_neg (by omega), Nat.zero_add]
theorem cnt_v {s : Int} {out : List Int} : cnt (s :: out) ≤ cnt out + 1 := by
  show (if 20 ≤ s then 1 else 0) + cnt out ≤ _
  split <;> omega
theorem tK_vs {p k cl wh : Nat} {out wait : List Int} {s' : tSt} (h1 : cnt out ≤ k) (h2 : k ≤ 60) (h3 : ∀ w ∈ wait, w < 20) (e : tvs b n p k out wait cl wh = .inr s') : tK s' := by
  unfold tvs at e
  split at e
  · cases e
  · next x hx =>
    cases e
    have k60 : k < 60 := by
      unfold tval at hx
      split at hx
      · split at hx
        · cases hx
        · split at hx
          · cases hx
          · omega
      · split at hx
        · cases hx
        · split at hx
          · cases hx
          · omega
    exact ⟨by have := cnt_v (s := x.2) (out := out); show cnt (x.2 :: out) ≤ k + 1; omega, by show k + 1 ≤ 60; omega, h3⟩
theorem tK_se {o a : Int} {p k' cl ex wh : Nat} {out wait : List Int} (h1 : cnt out ≤ k') (h2 : k' ≤ 60) (h3 : ∀ w ∈ wait, w < 20) (ho : o < 20) : tK (p, k', (tSe a wait out).1, o :: (tSe a wait out).2.1, cl, ex, wh) := by
  obtain ⟨k1, k2⟩ := cnt_se (o := a) (out := out) h3
  exact ⟨by show cnt (tSe a wait out).1 ≤ k'; omega, h2, fun w hw => (List.mem_cons.mp hw).elim (fun z => z ▸ ho) (k2 w)⟩
theorem tK_end {a : Int} {p k cl wh : Nat} {out wait : List Int} {s' : tSt} (ha : a < 20) (h1 : cnt out ≤ k) (h2 : k ≤ 60) (h3 : ∀ w ∈ wait, w < 20) (e : tendc b n a p k out wait cl wh = .inr s') : tK s' := by
  obtain ⟨k1, k2⟩ := cnt_se (o := 1) (out := out) h3
  unfold tendc at e
  split at e
  · cases e
    exact ⟨by show cnt (a :: _) ≤ k; rw [cnt_c ha]; omega, h2, k2⟩
  · split at e
    · cases e
      exact ⟨by show cnt (a :: _) ≤ k; rw [cnt_c ha]; omega, h2, k2⟩
    · cases e
theorem tK_stp {s s' : tSt} (h : tK s) (e : tstp b n s = .inr s') : tK s' := by
  obtain ⟨p, k, out, wait, cl, ex, wh⟩ := s
  obtain ⟨h1, h2, h3⟩ := h
  have h1 : cnt out ≤ k := h1
  have h2 : k ≤ 60 := h2
  have h3 : ∀ w ∈ wait, w < 20 := h3
  unfold tstp at e
  dsimp only at e
  split at e
  · unfold tlnd at e
    split at e
    · cases e
    · split at e
      · cases e
      · cases e
        exact ⟨h1, h2, h3⟩
  split at e
  · unfold tfac at e
    split at e
    · split at e
      · cases e
      · cases e
        exact ⟨h1, h2, fun w hw => (List.mem_cons.mp hw).elim (fun z => by rw [z]; decide) (h3 w)⟩
    · split at e
      · split at e
        · cases e
        · cases e
          exact ⟨h1, h2, fun w hw => (List.mem_cons.mp hw).elim (fun z => by rw [z]; decide) (h3 w)⟩
      · exact tK_vs h1 h2 h3 e
  split at e
  · exact tK_vs h1 h2 h3 e
  split at e
  · unfold tjnt at e
    split at e
    · next q =>
      cases e
      have := topr_a q.2
      exact tK_se h1 h2 h3 (by omega)
    · split at e
      · unfold tena at e
        split at e
        · cases e
          obtain ⟨k1, k2⟩ := cnt_se (o := 1) (out := out) h3
          exact ⟨by show cnt (tSe 1 wait out).1 ≤ k; omega, h2, k2⟩
        · exact tK_end (by decide) h1 h2 h3 e
      · split at e
        · unfold tsig at e
          split at e
          · split at e
            · cases e
            · next k60 =>
              split at e
              · cases e
                exact tK_se (by omega) (by omega) h3 (by decide)
              · split at e
                · cases e
                  exact tK_se (by omega) (by omega) h3 (by split <;> decide)
                · cases e
                  exact tK_se (by omega) (by omega) h3 (by split <;> decide)
          · cases e
        · unfold tenf at e
          split at e
          · cases e
            exact tK_se h1 h2 h3 (by split <;> decide)
          · split at e
            · exact tK_end (by decide) h1 h2 h3 e
            · split at e
              · cases e
                obtain ⟨k1, k2⟩ := cnt_se (o := 1) (out := out) h3
                exact ⟨by show cnt (tSe 1 wait out).1 ≤ k; omega, h2, fun w hw => k2 w (List.mem_of_mem_tail hw)⟩
              · cases e
  · cases e
theorem tK_0 : tK tS0 := ⟨Nat.le_refl _, by decide, fun w hw => (by cases hw)⟩
theorem tK_stn : ∀ (J : Nat) {s s' : tSt}, tK s → stn b n J s = .inr s' → tK s'
  | 0, s, s', h, e => by
    have e : s = s' := Sum.inr.inj e
    rw [← e]
    exact h
  | J + 1, s, s', h, e => by
    have e : (match tstp b n s with
      | .inl f => (Sum.inl f : Int ⊕ tSt)
      | .inr s1 => stn b n J s1) = .inr s' := e
    cases e1 : tstp b n s with
    | inl f =>
      rw [e1] at e
      cases e
    | inr s1 =>
      rw [e1] at e
      exact tK_stn J (tK_stp h e1) e
end PCN
