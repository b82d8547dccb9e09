/-! The machine's steps are typed: numbers (false) and truths (true) on a stack. -/
def tyS (s : Int) (L : List Bool) : Option (List Bool) :=
  if 20 ≤ s then some (false :: L)
  else if s = 3 then (match L with
    | true :: r => some (true :: r)
    | _ => none)
  else if s = 1 ∨ s = 2 then (match L with
    | true :: true :: r => some (true :: r)
    | _ => none)
  else if 4 ≤ s ∧ s ≤ 8 then (match L with
    | false :: false :: r => some (true :: r)
    | _ => none)
  else if 9 ≤ s ∧ s ≤ 13 then (match L with
    | false :: false :: r => some (false :: r)
    | _ => none)
  else none
/-- steps, the last first, over a base -/
def tyR : List Int → List Bool → Option (List Bool)
  | [], L => some L
  | s :: out, L => (tyR out L).bind (tyS s)
/-- what stands on the stack for what waits -/
def shp : List Int → List Bool
  | [] => []
  | w :: ws => (if w = 0 ∨ w = 3 then [] else if w ≤ 2 then [true] else [false]) ++ shp ws
abbrev ari (w : Int) : Prop := 9 ≤ w ∧ w ≤ 13
abbrev sgn (w : Int) : Prop := 4 ≤ w ∧ w ≤ 8
abbrev lgc (w : Int) : Prop := 0 ≤ w ∧ w ≤ 3
section PTYP
variable {base : List Bool}
theorem tyR_app : ∀ {a b : List Int} {L : List Bool}, tyR (a ++ b) L = (tyR b L).bind (tyR a)
  | [], b, L => by
    show tyR b L = (tyR b L).bind (fun x => some x)
    cases tyR b L <;> rfl
  | s :: a, b, L => by
    show (tyR (a ++ b) L).bind (tyS s) = _
    rw [tyR_app (a := a)]
    cases tyR b L <;> rfl
theorem ty_ari {w : Int} {L : List Bool} (h : ari w) : tyS w (false :: false :: L) = some (false :: L) := by
  unfold tyS
  rw [if_neg (by omega), if_neg (by omega), if_neg (by omega), if_neg (by omega), if_pos h]
theorem ty_sgn {w : Int} {L : List Bool} (h : sgn w) : tyS w (false :: false :: L) = some (true :: L) := by
  unfold tyS
  rw [if_neg (by omega), if_neg (by omega), if_neg (by omega), if_pos h]
theorem ty_lg {w : Int} {L : List Bool} (h : w = 1 ∨ w = 2) : tyS w (true :: true :: L) = some (true :: L) := by
  unfold tyS
  rw [if_neg (by omega), if_neg (by omega), if_pos h]
theorem ty_not {L : List Bool} : tyS 3 (true :: L) = some (true :: L) := by
  unfold tyS
  rw [if_neg (by omega), if_pos rfl]
theorem ty_val {w : Int} {L : List Bool} (h : 20 ≤ w) : tyS w L = some (false :: L) := if_pos h
theorem shp_ari {w : Int} {ws : List Int} (h : 4 ≤ w) : shp (w :: ws) = false :: shp ws := by
  show (if w = 0 ∨ w = 3 then [] else if w ≤ 2 then [true] else [false]) ++ shp ws = _
  rw [if_neg (by omega), if_neg (by omega)]
  rfl
theorem shp_lg {w : Int} {ws : List Int} (h : w = 1 ∨ w = 2) : shp (w :: ws) = true :: shp ws := by
  show (if w = 0 ∨ w = 3 then [] else if w ≤ 2 then [true] else [false]) ++ shp ws = _
  rw [if_neg (by omega), if_pos (by omega)]
  rfl
theorem shp_no {w : Int} {ws : List Int} (h : w = 0 ∨ w = 3) : shp (w :: ws) = shp ws := by
  show (if w = 0 ∨ w = 3 then [] else if w ≤ 2 then [true] else [false]) ++ shp ws = _
  rw [if_pos h]
  rfl
theorem tcl_ari {w : Int} (h : ari w) : 9 ≤ tcl w := by
  unfold tcl
  rw [if_neg (by omega), if_neg (by omega)]
  split <;> omega
theorem tcl_sgn {w : Int} (h : sgn w) : tcl w = 4 := by
  unfold tcl
  rw [if_neg (by omega), if_pos (by omega)]
theorem tcl_lg {w : Int} (h : lgc w) : tcl w = w := if_pos h.2
theorem tSe_c {o a : Int} {x out : List Int} (c : tcl o ≤ tcl a) : (tSe o (a :: x) out).1 = (tSe o x (a :: out)).1 ∧ (tSe o (a :: x) out).2.1 = (tSe o x (a :: out)).2.1 := by
  have e : tSe o (a :: x) out = (if tcl o ≤ tcl a then ((tSe o x (a :: out)).1, (tSe o x (a :: out)).2.1, (tSe o x (a :: out)).2.2 + (if a = 3 then 1 else 0)) else (out, a :: x, 0)) := rfl
  rw [e, if_pos c]
  exact ⟨rfl, rfl⟩
/-- settling for an arithmetic sign: only such go -/
theorem se_ari {o : Int} {R : List Int} (hR : ∀ r ∈ R, tcl r < tcl o) : ∀ {A out : List Int}, (∀ a ∈ A, ari a) → tyR out base = some (false :: (shp (A ++ R) ++ base)) → ∃ A' : List Int, (tSe o (A ++ R) out).2.1 = A' ++ R ∧ (∀ a ∈ A', ari a) ∧ tyR (tSe o (A ++ R) out).1 base = some (false :: (shp (A' ++ R) ++ base))
  | [], out, _, h => by
    cases R with
    | nil => exact ⟨[], rfl, fun a ha => (by cases ha), h⟩
    | cons r R =>
      have c := hR r (List.mem_cons_self ..)
      have e : tSe o ([] ++ r :: R) out = (out, r :: R, 0) := by
        show tSe o (r :: R) out = _
        unfold tSe
        exact if_neg (by omega)
      exact ⟨[], by rw [e]; rfl, fun a ha => (by cases ha), by rw [e]; exact h⟩
  | a :: A, out, hA, h => by
    have ha := hA a (List.mem_cons_self ..)
    by_cases c : tcl o ≤ tcl a
    · have e : ∀ x : List Int, (tSe o (a :: x) out).1 = (tSe o x (a :: out)).1 ∧ (tSe o (a :: x) out).2.1 = (tSe o x (a :: out)).2.1 := fun x => tSe_c c
      have h2 : tyR (a :: out) base = some (false :: (shp (A ++ R) ++ base)) := by
        show (tyR out base).bind (tyS a) = _
        rw [h]
        show tyS a (false :: (shp (a :: (A ++ R)) ++ base)) = _
        rw [shp_ari (by omega)]
        exact ty_ari ha
      obtain ⟨A', k1, k2, k3⟩ := se_ari hR (A := A) (out := a :: out) (fun x hx => hA x (List.mem_cons_of_mem _ hx)) h2
      refine ⟨A', ?_, k2, ?_⟩
      · show (tSe o (a :: (A ++ R)) out).2.1 = _
        rw [(e _).2]
        exact k1
      · show tyR (tSe o (a :: (A ++ R)) out).1 base = _
        rw [(e _).1]
        exact k3
    · have e : tSe o (a :: (A ++ R)) out = (out, a :: (A ++ R), 0) := by
        unfold tSe
        exact if_neg c
      exact ⟨a :: A, by show (tSe o (a :: (A ++ R)) out).2.1 = _; rw [e]; rfl, hA, by show tyR (tSe o (a :: (A ++ R)) out).1 base = _; rw [e]; exact h⟩
/-- settling for less: all arithmetic goes -/
theorem se_all {o : Int} {R : List Int} (ho : tcl o ≤ 9) : ∀ {A out : List Int}, (∀ a ∈ A, ari a) → tyR out base = some (false :: (shp (A ++ R) ++ base)) → (tSe o (A ++ R) out).1 = (tSe o R (A.reverse ++ out)).1 ∧ (tSe o (A ++ R) out).2.1 = (tSe o R (A.reverse ++ out)).2.1 ∧ tyR (A.reverse ++ out) base = some (false :: (shp R ++ base))
  | [], out, _, h => ⟨rfl, rfl, h⟩
  | a :: A, out, hA, h => by
    have ha := hA a (List.mem_cons_self ..)
    have h2 : tyR (a :: out) base = some (false :: (shp (A ++ R) ++ base)) := by
      show (tyR out base).bind (tyS a) = _
      rw [h]
      show tyS a (false :: (shp (a :: (A ++ R)) ++ base)) = _
      rw [shp_ari (by omega)]
      exact ty_ari ha
    obtain ⟨k1, k2, k3⟩ := se_all ho (A := A) (out := a :: out) (fun x hx => hA x (List.mem_cons_of_mem _ hx)) h2
    have e := tSe_c (x := A ++ R) (out := out) (o := o) (a := a) (by have := tcl_ari ha; omega)
    rw [List.reverse_cons, List.append_assoc]
    exact ⟨e.1.trans k1, e.2.trans k2, k3⟩
/-- settling what is true: and, or, not -/
theorem se_lg {o : Int} (ho : o = 1 ∨ o = 2) : ∀ {G out : List Int}, (∀ g ∈ G, lgc g) → tyR out base = some (true :: (shp G ++ base)) → ∃ G' : List Int, (tSe o G out).2.1 = G' ∧ (∀ g ∈ G', lgc g) ∧ tyR (tSe o G out).1 base = some (true :: (shp G' ++ base))
  | [], out, hG, h => ⟨[], rfl, hG, h⟩
  | g :: G, out, hG, h => by
    have hg := hG g (List.mem_cons_self ..)
    have tg := tcl_lg hg
    have to : tcl o = o := tcl_lg (by omega)
    by_cases c : tcl o ≤ tcl g
    · have e := tSe_c (x := G) (out := out) c
      have h2 : tyR (g :: out) base = some (true :: (shp G ++ base)) := by
        show (tyR out base).bind (tyS g) = _
        rw [h]
        show tyS g (true :: (shp (g :: G) ++ base)) = _
        by_cases g3 : g = 3
        · rw [shp_no (Or.inr g3), g3]
          exact ty_not
        · rw [shp_lg (by omega)]
          exact ty_lg (by omega)
      obtain ⟨G', k1, k2, k3⟩ := se_lg ho (G := G) (out := g :: out) (fun x hx => hG x (List.mem_cons_of_mem _ hx)) h2
      exact ⟨G', e.2.trans k1, k2, by rw [e.1]; exact k3⟩
    · have e : tSe o (g :: G) out = (out, g :: G, 0) := by
        unfold tSe
        exact if_neg c
      exact ⟨g :: G, by rw [e], hG, by rw [e]; exact h⟩
end PTYP
