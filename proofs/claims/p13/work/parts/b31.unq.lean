/-! A clause's steps are cut in one way into sum and test. -/
def sdp (s : Int) (k : Nat) : Option Nat := if 20 ≤ s then some (k + 1) else if s = 3 then (if 1 ≤ k then some k else none) else (if 2 ≤ k then some (k - 1) else none)
/-- how deep the stack is behind steps (in order) -/
def sdr : List Int → Nat → Option Nat
  | [], k => some k
  | s :: r, k => (sdp s k).bind (sdr r)
section PUNQ
theorem sdr_app : ∀ {a b : List Int} {k : Nat}, sdr (a ++ b) k = (sdr a k).bind (sdr b)
  | [], b, k => rfl
  | s :: a, b, k => by
    show (sdp s k).bind (sdr (a ++ b)) = ((sdp s k).bind (sdr a)).bind (sdr b)
    cases sdp s k with
    | none => rfl
    | some k1 => exact sdr_app (a := a)
theorem sdp_fr {s : Int} {k d j : Nat} (h : sdp s k = some d) : sdp s (k + j) = some (d + j) ∧ 1 ≤ d := by
  unfold sdp at h ⊢
  split at h
  · next a =>
    cases h
    rw [if_pos a]
    exact ⟨congrArg some (by omega), by omega⟩
  · next a =>
    rw [if_neg a]
    split at h
    · next b =>
      rw [if_pos b]
      split at h
      · cases h
        rw [if_pos (by omega)]
        exact ⟨rfl, by omega⟩
      · cases h
    · next b =>
      rw [if_neg b]
      split at h
      · cases h
        rw [if_pos (by omega)]
        exact ⟨congrArg some (by omega), by omega⟩
      · cases h
theorem sdr_fr : ∀ {S : List Int} {k d j : Nat}, sdr S k = some d → sdr S (k + j) = some (d + j)
  | [], k, d, j, h => by
    have h : k = d := Option.some.inj h
    rw [h]
    rfl
  | s :: S, k, d, j, h => by
    have h : (sdp s k).bind (sdr S) = some d := h
    obtain ⟨k1, h1, h2⟩ := Option.bind_eq_some_iff.mp h
    show (sdp s (k + j)).bind (sdr S) = _
    rw [(sdp_fr h1).1]
    exact sdr_fr h2
theorem sdr_pos : ∀ {S : List Int} {k d : Nat}, sdr S k = some d → S ≠ [] → 1 ≤ d
  | [], _, _, _, n => absurd rfl n
  | [s], k, d, h, _ => by
    have h : (sdp s k).bind (fun x => some x) = some d := h
    obtain ⟨k1, h1, h2⟩ := Option.bind_eq_some_iff.mp h
    cases h2
    exact (sdp_fr (j := 0) h1).2
  | s :: s2 :: S, k, d, h, _ => by
    have h : (sdp s k).bind (sdr (s2 :: S)) = some d := h
    obtain ⟨k1, h1, h2⟩ := Option.bind_eq_some_iff.mp h
    exact sdr_pos h2 (by intro z; cases z)
theorem cut_u {p r p' r' : List Int} {a b : Nat} (e : p ++ r = p' ++ r') (h1 : sdr p 0 = some a) (h2 : sdr r 0 = some b) (a1 : 1 ≤ a) (b1 : 1 ≤ b) (h3 : sdr p' 0 = some 1) (h4 : sdr r' 0 = some 1) : p = p' ∧ r = r' := by
  rcases List.append_eq_append_iff.mp e with ⟨x, rfl, rfl⟩ | ⟨x, rfl, rfl⟩
  · rw [sdr_app, h1] at h3
    have h3 : sdr x a = some 1 := h3
    rw [sdr_app] at h2
    obtain ⟨d0, g1, -⟩ := Option.bind_eq_some_iff.mp h2
    have f := sdr_fr (j := a) g1
    rw [Nat.zero_add, h3] at f
    have f := Option.some.inj f
    have x0 : x = [] := Decidable.byContradiction (fun z => by
      have := sdr_pos g1 z
      omega)
    subst x0
    exact ⟨(List.append_nil p).symm, rfl⟩
  · rw [sdr_app] at h4
    obtain ⟨d0, g1, g2⟩ := Option.bind_eq_some_iff.mp h4
    have f := sdr_fr (j := d0) h2
    rw [Nat.zero_add, g2] at f
    have f := Option.some.inj f
    have x0 : x = [] := Decidable.byContradiction (fun z => by
      have := sdr_pos g1 z
      omega)
    subst x0
    exact ⟨List.append_nil p', rfl⟩
/-- typed steps have this depth -/
theorem ty_sdp {s : Int} {L L' : List Bool} (t : tyS s L = some L') : sdp s L.length = some L'.length := by
  unfold tyS at t
  unfold sdp
  split at t
  · next h =>
    cases t
    rw [if_pos h]
    rfl
  · next h =>
    rw [if_neg h]
    split at t
    · next h3 =>
      rw [if_pos h3]
      split at t
      · cases t
        simp only [List.length_cons]
        rw [if_pos (by omega)]
      · cases t
    · next h3 =>
      rw [if_neg h3]
      split at t
      · split at t
        · cases t
          simp only [List.length_cons]
          rw [if_pos (by omega)]
          congr 1
        · cases t
      · split at t
        · split at t
          · cases t
            simp only [List.length_cons]
            rw [if_pos (by omega)]
            congr 1
          · cases t
        · split at t
          · split at t
            · cases t
              simp only [List.length_cons]
              rw [if_pos (by omega)]
              congr 1
            · cases t
          · cases t
theorem ty_sdr : ∀ {out : List Int} {L L' : List Bool}, tyR out L = some L' → sdr out.reverse L.length = some L'.length
  | [], L, L', t => by
    have t : L = L' := Option.some.inj t
    rw [t]
    rfl
  | s :: out, L, L', t => by
    have t : (tyR out L).bind (tyS s) = some L' := t
    obtain ⟨L1, t1, t2⟩ := Option.bind_eq_some_iff.mp t
    rw [List.reverse_cons, sdr_app, ty_sdr t1]
    show (sdp s L1.length).bind (fun x => some x) = _
    rw [ty_sdp t2]
    rfl
end PUNQ
