/-! Rows of houses in order, and the reference's codes. -/
def dgt (N n c k : Nat) : Nat := c / N ^ (n - 1 - k) % N
def dg (N n c : Nat) : List Nat := (List.range n).map (dgt N n c)
/-- all rows of n houses, in order -/
def rws (N : Nat) : Nat → List (List Nat)
  | 0 => [[]]
  | n + 1 => (List.range N).flatMap (fun h => (rws N n).map (fun r => h :: r))
section PROW
variable {N n c : Nat}
theorem dg_c {h : Nat} (hh : h < N) (hc : c < N ^ n) : dg N (n + 1) (h * N ^ n + c) = h :: dg N n c := by
  have N0 : 0 < N := by omega
  have P0 : 0 < N ^ n := Nat.pow_pos N0
  unfold dg
  rw [List.range_succ_eq_map, List.map_cons, List.map_map]
  congr 1
  · unfold dgt
    rw [show n + 1 - 1 - 0 = n by omega, Nat.mul_comm, Nat.mul_add_div P0, Nat.div_eq_of_lt hc, Nat.add_zero]
    exact Nat.mod_eq_of_lt hh
  · refine List.map_congr_left (fun k hk => ?_)
    have hk : k < n := List.mem_range.mp hk
    show dgt N (n + 1) (h * N ^ n + c) (k + 1) = dgt N n c k
    unfold dgt
    rw [show n + 1 - 1 - (k + 1) = n - 1 - k by omega]
    have e : h * N ^ n = N ^ (n - 1 - k) * (N * (h * N ^ k)) := by
      have : N ^ n = N ^ (n - 1 - k) * (N * N ^ k) := by
        rw [← Nat.pow_succ', ← Nat.pow_add]
        congr 1
        omega
      rw [this]
      simp only [Nat.mul_assoc, Nat.mul_left_comm]
    rw [e, Nat.mul_add_div (Nat.pow_pos N0), Nat.mul_add_mod]
theorem rng_mul (a b : Nat) : List.range (a * b) = (List.range a).flatMap (fun h => (List.range b).map (fun c => h * b + c)) := by
  induction a with
  | zero => rw [Nat.zero_mul]; rfl
  | succ a ih =>
    rw [Nat.succ_mul, List.range_add, ih, List.range_succ, List.flatMap_append]
    simp
theorem rws_c : ∀ n : Nat, (List.range (N ^ n)).map (dg N n) = rws N n
  | 0 => rfl
  | n + 1 => by
    rw [Nat.pow_succ, Nat.mul_comm, rng_mul, List.map_flatMap]
    show _ = (List.range N).flatMap (fun h => (rws N n).map (fun r => h :: r))
    rw [← rws_c n]
    rw [List.flatMap_def, List.flatMap_def]
    congr 1
    refine List.map_congr_left (fun h hh => ?_)
    rw [List.map_map, List.map_map]
    refine List.map_congr_left (fun c hc => ?_)
    exact dg_c (List.mem_range.mp hh) (List.mem_range.mp hc)
theorem dg_len : (dg N n c).length = n := by
  unfold dg
  rw [List.length_map, List.length_range]
theorem dg_get {k : Nat} (hk : k < n) : (dg N n c)[k]'(by rw [dg_len]; exact hk) = dgt N n c k := by
  unfold dg
  rw [List.getElem_map, List.getElem_range]
theorem rws_len : ∀ {n : Nat} {r : List Nat}, r ∈ rws N n → r.length = n ∧ ∀ h ∈ r, h < N
  | 0, r, hr => by
    have : r = [] := by simpa [rws] using hr
    subst this
    exact ⟨rfl, fun h hh => by cases hh⟩
  | n + 1, r, hr => by
    obtain ⟨h, hh, hr⟩ := List.mem_flatMap.mp hr
    obtain ⟨r', hr', rfl⟩ := List.mem_map.mp hr
    obtain ⟨a, b⟩ := rws_len hr'
    refine ⟨by rw [List.length_cons, a], fun x hx => ?_⟩
    rcases List.mem_cons.mp hx with rfl | hx
    · exact List.mem_range.mp hh
    · exact b x hx
/-- the first row of which P holds -/
def ff (N n : Nat) (P : List Nat → Bool) : Option (List Nat) := (rws N n).find? P
theorem fl_find {α β : Type} (l : List α) (f : α → List β) (P : β → Bool) : (l.flatMap f).find? P = l.findSome? (fun a => (f a).find? P) := by
  induction l with
  | nil => rfl
  | cons a l ih =>
    rw [List.flatMap_cons, List.find?_append, List.findSome?_cons, ih]
    cases (f a).find? P <;> rfl
theorem ff_s {P : List Nat → Bool} : ff N (n + 1) P = (List.range N).findSome? (fun h => (ff N n (fun r => P (h :: r))).map (fun r => h :: r)) := by
  unfold ff
  show ((List.range N).flatMap (fun h => (rws N n).map (fun r => h :: r))).find? P = _
  rw [fl_find]
  congr 1
  funext h
  rw [List.find?_map]
  rfl
theorem ff_n {P : List Nat → Bool} (h : ∀ r, P r = false) : ff N n P = none := by
  unfold ff
  rw [List.find?_eq_none]
  intro r _
  rw [h r]
  decide
theorem ff_c {P Q : List Nat → Bool} (h : ∀ r, r.length = n → (∀ x ∈ r, x < N) → P r = Q r) : ff N n P = ff N n Q := by
  unfold ff
  have : ∀ l : List (List Nat), (∀ r ∈ l, P r = Q r) → l.find? P = l.find? Q := by
    intro l
    induction l with
    | nil => intro _; rfl
    | cons a l ih =>
      intro hl
      rw [List.find?_cons, List.find?_cons, hl a (List.mem_cons_self ..), ih (fun r hr => hl r (List.mem_cons_of_mem _ hr))]
  exact this _ (fun r hr => h r (rws_len hr).1 (rws_len hr).2)
/-- by codes -/
theorem ff_code {P : List Nat → Bool} : ff N n P = ((List.range (N ^ n)).find? (fun c => P (dg N n c))).map (dg N n) := by
  unfold ff
  rw [← rws_c, List.find?_map]
  rfl
end PROW
