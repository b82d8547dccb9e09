/-! A rule's clauses: the reference's codes and the class's steps come to the same. -/
/-- codes (in order) whose steps these are (the last first) -/
def cSt (S : List Int32) (out : List Int) : Prop := (S.map (fun c => tenc c.toInt)).reverse = out ∧ ∀ c ∈ S, cok c
section PSEM
variable {w : Nat → Int64}
theorem srun_app : ∀ {a c : List Int} {st : List Int64}, srun w (a ++ c) st = (srun w c st).bind (srun w a)
  | [], c, st => by
    show srun w c st = (srun w c st).bind (fun x => some x)
    cases srun w c st <;> rfl
  | s :: a, c, st => by
    show (srun w (a ++ c) st).bind (sst w s) = _
    rw [srun_app (a := a)]
    cases srun w c st <;> rfl
theorem erun_srun : ∀ {S : List Int32} {st : List Int64}, (∀ c ∈ S, cok c) → erun w S st = srun w (S.map (fun c => tenc c.toInt)).reverse st
  | [], st, _ => rfl
  | c :: S, st, h => by
    rw [List.map_cons, List.reverse_cons, srun_app]
    show (est w c st).bind (erun w S) = (sst w (tenc c.toInt) st).bind (srun w _)
    rw [est_sst (h c (List.mem_cons_self ..))]
    cases sst w (tenc c.toInt) st with
    | none => rfl
    | some st1 => exact erun_srun (fun x hx => h x (List.mem_cons_of_mem _ hx))
/-- the types tell how deep the stack is -/
theorem zst_ty {c : Int32} {L L' : List Bool} (h : cok c) (l : L.length < 64) (t : tyS (tenc c.toInt) L = some L') : zst c L.length = some L'.length := by
  have h0 := h.1
  have h15 := h.2.1
  have l0 : 0 ≤ c.toInt % 16 := by omega
  have l1 : c.toInt % 16 < 16 := by omega
  unfold zst zs0
  rw [if_pos ⟨h0, h15⟩]
  by_cases k0 : c.toInt % 16 = 0
  · have e : tenc c.toInt = 40 + c.toInt / 16 := if_pos k0
    rw [e, ty_val (by omega)] at t
    cases t
    rw [if_pos k0, if_pos l]
    rfl
  rw [if_neg k0]
  by_cases k1 : c.toInt % 16 = 1
  · have e : tenc c.toInt = 20 + c.toInt / 16 := (if_neg k0).trans (if_pos k1)
    have b := h.2.2 k1
    rw [e, ty_val (by omega)] at t
    cases t
    rw [if_pos k1, if_pos ⟨by omega, b, l⟩]
    rfl
  rw [if_neg k1]
  by_cases k11 : c.toInt % 16 = 11
  · have e : tenc c.toInt = 3 := by
      unfold tenc
      rw [if_neg k0, if_neg k1, if_neg (by omega), if_neg (by omega), if_pos k11]
    rw [e] at t
    unfold tyS at t
    rw [if_neg (by decide), if_pos rfl] at t
    rw [if_pos k11]
    split at t
    · cases t
      simp only [List.length_cons]
      rw [if_pos (by omega)]
    · cases t
  rw [if_neg k11]
  have lt : tenc c.toInt < 20 ∧ tenc c.toInt ≠ 3 := by
    unfold tenc
    rw [if_neg k0, if_neg k1]
    split
    · omega
    · split
      · omega
      · split
        · omega
        · split
          · omega
          · omega
  unfold tyS at t
  rw [if_neg (by omega), if_neg lt.2] at t
  split at t
  · split at t
    · cases t
      simp only [List.length_cons]
      rw [if_pos (by omega)]
      congr 1
    · cases t
  · split at t
    · split at t
      · cases t
        simp only [List.length_cons]
        rw [if_pos (by omega)]
        congr 1
      · cases t
    · split at t
      · split at t
        · cases t
          simp only [List.length_cons]
          rw [if_pos (by omega)]
          congr 1
        · cases t
      · cases t
theorem tyS_len {s : Int} {L L' : List Bool} (t : tyS s L = some L') : L'.length ≤ L.length + (if 20 ≤ s then 1 else 0) := by
  unfold tyS at t
  split at t
  · next h20 =>
    cases t
    rw [List.length_cons, if_pos h20]
    exact Nat.le_refl _
  · split at t
    · split at t
      · cases t
        omega
      · cases t
    · split at t
      · split at t
        · cases t
          simp only [List.length_cons]
          omega
        · cases t
      · split at t
        · split at t
          · cases t
            simp only [List.length_cons]
            omega
          · cases t
        · split at t
          · split at t
            · cases t
              simp only [List.length_cons]
              omega
            · cases t
          · cases t
theorem ldp_ty : ∀ {S : List Int32} {L L' : List Bool}, (∀ c ∈ S, cok c) → L.length + cnt (S.map (fun c => tenc c.toInt)).reverse ≤ 63 → tyR (S.map (fun c => tenc c.toInt)).reverse L = some L' → ldp S L.length = some L'.length
  | [], L, L', _, _, t => by
    have t : L = L' := Option.some.inj t
    rw [t]
    rfl
  | c :: S, L, L', h, l, t => by
    rw [List.map_cons, List.reverse_cons] at l t
    rw [cnt_app] at l
    rw [tyR_app] at t
    obtain ⟨L1, t1, t2⟩ := Option.bind_eq_some_iff.mp t
    have t1 : tyS (tenc c.toInt) L = some L1 := t1
    have len := tyS_len t1
    have e1 : cnt [tenc c.toInt] = (if 20 ≤ tenc c.toInt then 1 else 0) + 0 := rfl
    show (zst c L.length).bind (ldp S) = _
    rw [zst_ty (h c (List.mem_cons_self ..)) (by omega) t1]
    exact ldp_ty (fun x hx => h x (List.mem_cons_of_mem _ hx)) (by omega) t2
/-- codes of typed steps are well formed -/
theorem cwf_ty {S : List Int32} {out : List Int} {x : Bool} (h : cSt S out) (c : cnt out ≤ 60) (t : tyR out [] = some [x]) : cwf S := by
  obtain ⟨h1, h2⟩ := h
  subst h1
  exact ⟨ldp_ty (L := []) (L' := [x]) h2 (by show 0 + _ ≤ 63; omega) t, fun c hc => (h2 c hc).1⟩
/-- what steps come to -/
def sv (w : Nat → Int64) (out : List Int) : Int64 := match srun w out [] with
  | some (v :: _) => v
  | _ => 0
theorem ev_sv {S : List Int32} {out : List Int} (h : cSt S out) : ev w S = sv w out := by
  unfold ev sv
  rw [erun_srun h.2, h.1]
  cases srun w out [] with
  | none => rfl
  | some st => cases st <;> rfl
/-- a truth is 0 or 1 -/
theorem sv_tr {out : List Int} (t : tyR out [] = some [true]) : sv w out = 0 ∨ sv w out = 1 := by
  obtain ⟨st, k1, k2⟩ := srun_ty (w := w) (st := []) t trivial
  unfold sv
  rw [k1]
  cases st with
  | nil => exact k2.elim
  | cons v st => exact k2.1 rfl
end PSEM
