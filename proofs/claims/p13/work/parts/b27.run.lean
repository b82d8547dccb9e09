/-! The class's run over a rule's steps. -/
/-- two values joined by a step -/
def sop (s : Int) (x y : Int64) : Int64 :=
  if s = 9 then x + y else if s = 10 then x - y else if s = 11 then x * y
  else if s = 12 then (if y = 0 then 0 else x / y)
  else if s = 13 then (if y = 0 then 0 else x - x / y * y)
  else if s = 2 then x &&& y else if s = 1 then x ||| y
  else if s = 4 then (if x.toInt < y.toInt then 1 else 0)
  else if s = 5 then (if x.toInt ≤ y.toInt then 1 else 0)
  else if s = 6 then (if x = y then 1 else 0)
  else if s = 7 then (if y.toInt ≤ x.toInt then 1 else 0)
  else (if y.toInt < x.toInt then 1 else 0)
/-- one step; the stack's top first -/
def sst (w : Nat → Int64) (s : Int) (st : List Int64) : Option (List Int64) :=
  if 40 ≤ s then some (Int64.ofInt (s - 40) :: st)
  else if 20 ≤ s then some (w (s - 20).toNat :: st)
  else if s = 3 then (match st with
    | x :: r => some ((1 - x) :: r)
    | [] => none)
  else (match st with
    | y :: x :: r => some (sop s x y :: r)
    | _ => none)
/-- steps, the last first -/
def srun (w : Nat → Int64) : List Int → List Int64 → Option (List Int64)
  | [], st => some st
  | s :: out, st => (srun w out st).bind (sst w s)
/-- a stack of these types: truths are 0 or 1 -/
def tyV : List Bool → List Int64 → Prop
  | [], [] => True
  | t :: L, x :: st => (t = true → x = 0 ∨ x = 1) ∧ tyV L st
  | _, _ => False
section PRUN
variable {w : Nat → Int64}
theorem bit_and {x y : Int64} (h1 : x = 0 ∨ x = 1) (h2 : y = 0 ∨ y = 1) : (x &&& y = 0 ∨ x &&& y = 1) ∧ (x ||| y = 0 ∨ x ||| y = 1) := by
  rcases h1 with rfl | rfl <;> rcases h2 with rfl | rfl <;> decide
theorem sst_ty {s : Int} {L L' : List Bool} {st : List Int64} (h : tyS s L = some L') (v : tyV L st) : ∃ st', sst w s st = some st' ∧ tyV L' st' := by
  unfold tyS at h
  unfold sst
  by_cases h20 : 20 ≤ s
  · rw [if_pos h20] at h
    cases h
    split
    · exact ⟨_, rfl, (fun z => (by cases z)), v⟩
    · exact ⟨_, rfl, (fun z => (by cases z)), v⟩
  rw [if_neg h20] at h
  rw [if_neg (by omega), if_neg h20]
  by_cases h3 : s = 3
  · rw [if_pos h3] at h ⊢
    split at h
    · cases h
      cases st with
      | nil => exact v.elim
      | cons x st =>
        refine ⟨_, rfl, fun _ => ?_, v.2⟩
        rcases v.1 rfl with rfl | rfl
        · exact Or.inr (by decide)
        · exact Or.inl (by decide)
    · cases h
  rw [if_neg h3] at h ⊢
  have two : ∀ {a c : Bool} {r : List Bool}, tyV (a :: c :: r) st → ∃ y x st', st = y :: x :: st' ∧ (a = true → y = 0 ∨ y = 1) ∧ (c = true → x = 0 ∨ x = 1) ∧ tyV r st' := fun {a c r} v => by
    cases st with
    | nil => exact v.elim
    | cons y st =>
      cases st with
      | nil => exact v.2.elim
      | cons x st => exact ⟨y, x, st, rfl, v.1, v.2.1, v.2.2⟩
  by_cases h12 : s = 1 ∨ s = 2
  · rw [if_pos h12] at h
    split at h
    · cases h
      obtain ⟨y, x, st', rfl, v1, v2, v3⟩ := two v
      have bb := bit_and (v2 rfl) (v1 rfl)
      refine ⟨_, rfl, fun _ => ?_, v3⟩
      rcases h12 with rfl | rfl
      · exact bb.2
      · exact bb.1
    · cases h
  rw [if_neg h12] at h
  by_cases h48 : 4 ≤ s ∧ s ≤ 8
  · rw [if_pos h48] at h
    split at h
    · cases h
      obtain ⟨y, x, st', rfl, -, -, v3⟩ := two v
      refine ⟨_, rfl, fun _ => ?_, v3⟩
      unfold sop
      rw [if_neg (by omega), if_neg (by omega), if_neg (by omega), if_neg (by omega), if_neg (by omega), if_neg (by omega), if_neg (by omega)]
      have p : ∀ (q : Prop) [Decidable q], (if q then (1 : Int64) else 0) = 0 ∨ (if q then (1 : Int64) else 0) = 1 := fun q _ => by
        by_cases z : q
        · rw [if_pos z]
          exact Or.inr rfl
        · rw [if_neg z]
          exact Or.inl rfl
      split
      · exact p _
      · split
        · exact p _
        · split
          · exact p _
          · split
            · exact p _
            · exact p _
    · cases h
  rw [if_neg h48] at h
  split at h
  · split at h
    · cases h
      obtain ⟨y, x, st', rfl, -, -, v3⟩ := two v
      exact ⟨_, rfl, fun z => (by cases z), v3⟩
    · cases h
  · cases h
theorem srun_ty : ∀ {out : List Int} {L L' : List Bool} {st : List Int64}, tyR out L = some L' → tyV L st → ∃ st', srun w out st = some st' ∧ tyV L' st'
  | [], L, L', st, h, v => by
    have h : L = L' := Option.some.inj h
    exact ⟨st, rfl, h ▸ v⟩
  | s :: out, L, L', st, h, v => by
    have h : (tyR out L).bind (tyS s) = some L' := h
    obtain ⟨L1, h1, h2⟩ := Option.bind_eq_some_iff.mp h
    obtain ⟨st1, k1, k2⟩ := srun_ty (out := out) h1 v
    obtain ⟨st2, k3, k4⟩ := sst_ty (w := w) h2 k2
    refine ⟨st2, ?_, k4⟩
    show (srun w out st).bind (sst w s) = some st2
    rw [k1]
    exact k3
theorem tyV_l : ∀ {L : List Bool} {st : List Int64}, tyV L st → st.length = L.length
  | [], [], _ => rfl
  | [], _ :: _, h => h.elim
  | _ :: _, [], h => h.elim
  | _ :: L, _ :: st, h => by rw [List.length_cons, List.length_cons, tyV_l h.2]
/-- a code that can stand in a rule -/
def cok (c : Int32) : Prop := 0 ≤ c.toInt ∧ c.toInt % 16 ≠ 15 ∧ (c.toInt % 16 = 1 → c.toInt / 16 ≤ 12)
theorem eop_sop {c : Int32} {x y : Int64} (h : cok c) (h0 : c.toInt % 16 ≠ 0) (h1 : c.toInt % 16 ≠ 1) (h11 : c.toInt % 16 ≠ 11) : eop (c &&& 15) x y = sop (tenc c.toInt) x y := by
  have an := xan c
  have l0 : 0 ≤ c.toInt % 16 := by omega
  have l1 : c.toInt % 16 < 16 := by omega
  have key : ∀ k : Nat, k < 16 → c.toInt % 16 = (k : Int) → (c &&& 15) = Int32.ofNat k := fun k hk e => by
    apply Int32.toInt_inj.mp
    rw [an, e, nJ (by omega)]
  obtain ⟨k, hk⟩ : ∃ k : Nat, c.toInt % 16 = (k : Int) := ⟨(c.toInt % 16).toNat, by omega⟩
  have kk := key k (by omega) hk
  have h15 := h.2.1
  unfold tenc
  rw [hk] at h0 h1 h11 h15 ⊢
  rw [kk]
  have c2 : k = 2 ∨ k = 3 ∨ k = 4 ∨ k = 5 ∨ k = 6 ∨ k = 7 ∨ k = 8 ∨ k = 9 ∨ k = 10 ∨ k = 12 ∨ k = 13 ∨ k = 14 := by omega
  rcases c2 with rfl | rfl | rfl | rfl | rfl | rfl | rfl | rfl | rfl | rfl | rfl | rfl <;> simp (decide := true) [eop, sop]
theorem est_sst {c : Int32} {st : List Int64} (h : cok c) : est w c st = sst w (tenc c.toInt) st := by
  have h0 := h.1
  unfold est sst
  by_cases k0 : c.toInt % 16 = 0
  · have e : tenc c.toInt = 40 + c.toInt / 16 := if_pos k0
    rw [if_pos k0, e, if_pos (by omega)]
    refine congrArg (fun z => some (z :: st)) (Int64.toInt_inj.mp ?_)
    have b := y32 c
    rw [Int32.toInt_toInt64, xsh, show 40 + c.toInt / 16 - 40 = c.toInt / 16 by omega, Int64.toInt_ofInt]
    have hs : ((Int64.size : Nat) : Int) = 18446744073709551616 := rfl
    exact (Int.bmod_eq_of_le_mul_two (by omega) (by omega)).symm
  rw [if_neg k0]
  by_cases k1 : c.toInt % 16 = 1
  · have e : tenc c.toInt = 20 + c.toInt / 16 := (if_neg k0).trans (if_pos k1)
    have b := h.2.2 k1
    rw [if_pos k1, e, if_neg (by omega), if_pos (by omega), show 20 + c.toInt / 16 - 20 = c.toInt / 16 by omega]
  rw [if_neg k1]
  have l0 : 0 ≤ c.toInt % 16 := by omega
  have l1 : c.toInt % 16 < 16 := by omega
  have h15 := h.2.1
  by_cases k11 : c.toInt % 16 = 11
  · have e : tenc c.toInt = 3 := by
      unfold tenc
      rw [if_neg k0, if_neg k1, if_neg (by omega), if_neg (by omega), if_pos k11]
    rw [if_pos k11, e, if_neg (by decide), if_neg (by decide), if_pos rfl]
    cases st <;> rfl
  rw [if_neg k11]
  have lt : tenc c.toInt < 20 ∧ tenc c.toInt ≠ 3 := by
    unfold tenc
    rw [if_neg k0, if_neg k1]
    split
    · omega
    · split
      · omega
      · split
        · omega
        · split
          · omega
          · omega
  rw [if_neg (by omega), if_neg (by omega), if_neg lt.2]
  cases st with
  | nil => rfl
  | cons y st =>
    cases st with
    | nil => rfl
    | cons x st =>
      show some (eop (c &&& 15) x y :: st) = some (sop (tenc c.toInt) x y :: st)
      rw [eop_sop h k0 k1 k11]
end PRUN
