/-! The world of ids against the machine's heap: ids below zSC lie in order from an address on. -/
/-- where our cells begin; addresses of what lies outside; the kinds of arrays; the tables' numbers of objects; the formatter -/
abbrev zWd : Type := Nat × (Nat → Nat) × (Nat → ClassId) × va_G × Option Nat
def zta (w : zWd) (i : Nat) : Nat := if i < zSC then w.1 + i else w.2.1 (i - zSC)
theorem zta_lo {w : zWd} {i : Nat} (h : i < zSC) : zta w i = w.1 + i := if_pos h
theorem zta_hi (w : zWd) {i : Nat} (h : ¬ i < zSC) : zta w i = w.2.1 (i - zSC) := if_neg h
def ztv (w : zWd) : Value → Value
  | .ref i => .ref (zta w i)
  | .retAddr _ => va_rf w.2.2.2.2
  | .int x => .int x
  | .long x => .long x
  | .float x => .float x
  | .double x => .double x
  | .null => .null
theorem ztv_cat (w : zWd) (v : Value) : (ztv w v).category = v.category := by
  cases v with
  | retAddr a => unfold ztv; cases w.2.2.2.2 <;> rfl
  | _ => rfl
def ztc (w : zWd) : zCl → va_E
  | .inl (t, n, .inl f) => .inl (w.2.2.1 t, n, .inl f)
  | .inl (t, n, .inr (.inl f)) => .inl (w.2.2.1 t, n, .inr (.inl f))
  | .inl (t, n, .inr (.inr (.inl f))) => .inl (w.2.2.1 t, n, .inr (.inr (.inl f)))
  | .inl (t, n, .inr (.inr (.inr (.inl f)))) => .inl (w.2.2.1 t, n, .inr (.inr (.inr (.inl f))))
  | .inl (t, n, .inr (.inr (.inr (.inr f)))) => .inl (w.2.2.1 t, n, .inr (.inr (.inr (.inr (fun j => (f j).map (zta w))))))
  | .inr (ci, fs) => .inr (ci, fs.map (ztv w))
theorem ztc_len (w : zWd) (t : Nat) (x : vp_A) : ∃ x2 : vp_A, ztc w (.inl (t, x)) = .inl (w.2.2.1 t, x2) ∧ x2.1 = x.1 := by
  obtain ⟨n, f⟩ := x
  rcases f with f | f | f | f | f <;> exact ⟨_, rfl, rfl⟩
def zA (w : zWd) : Nat → Prop := fun q => w.1 ≤ q
def zwl (w : zWd) (hp : zHp) : va_W := (List.range hp.1).map (fun i => (w.1 + i, ztc w (hp.2 i)))
def zHd (w : zWd) (hp : zHp) (H : Heap) : Prop := H.size = w.1 + hp.1 ∧ va_P w.2.2.2.1 zcls (zwl w hp) H
def zlm (w : zWd) (l : List (Nat × Value)) : List (Nat × Value) := l.map (fun q => (q.1, ztv w q.2))
theorem zwl_get {w : zWd} {hp : zHp} {i : Nat} (h : i < hp.1) : (zwl w hp)[i]? = some (w.1 + i, ztc w (hp.2 i)) := by
  unfold zwl
  rw [List.getElem?_map, List.getElem?_range h]
  rfl
theorem zwl_at {w : zWd} {hp : zHp} {k : Nat} {q : Nat × va_E} (h : (zwl w hp)[k]? = some q) : k < hp.1 ∧ q = (w.1 + k, ztc w (hp.2 k)) := by
  have hk : k < (zwl w hp).length := (List.getElem?_eq_some_iff.mp h).1
  have hk : k < hp.1 := by
    unfold zwl at hk
    rw [List.length_map, List.length_range] at hk
    exact hk
  rw [zwl_get hk] at h
  exact ⟨hk, (Option.some.inj h).symm⟩
theorem zwl_D (w : zWd) (hp : zHp) : va_D (zA w) (zwl w hp) := by
  refine ⟨fun i j p q hi hj hpq => ?_, fun k q hk => ?_⟩
  · have h1 := (zwl_at hi).2
    have h2 := (zwl_at hj).2
    rw [h1, h2] at hpq
    have h3 : w.1 + i = w.1 + j := hpq
    omega
  · rw [(zwl_at hk).2]
    exact Nat.le_add_right _ _
theorem zwl_set {w : zWd} {hp : zHp} {i : Nat} (c : zCl) (h : i < hp.1) : (zwl w hp).set i (w.1 + i, ztc w c) = zwl w (hp.1, zup hp.2 i c) := by
  apply List.ext_getElem?
  intro j
  by_cases hj : j < hp.1
  · rw [zwl_get (hp := (hp.1, zup hp.2 i c)) hj, List.getElem?_set]
    by_cases e : i = j
    · subst e
      rw [if_pos rfl, if_pos (by unfold zwl; simpa using h)]
      simp [zup]
    · rw [if_neg e, zwl_get hj]
      have e2 : ¬ j = i := fun q => e q.symm
      simp [zup, e2]
  · rw [List.getElem?_eq_none (by unfold zwl; simp; omega), List.getElem?_eq_none (by unfold zwl; simp; omega)]
theorem zwl_push {w : zWd} {hp : zHp} (c : zCl) : zwl w (hp.1 + 1, zup hp.2 hp.1 c) = zwl w hp ++ [(w.1 + hp.1, ztc w c)] := by
  unfold zwl
  rw [List.range_succ, List.map_append]
  congr 1
  · apply List.map_congr_left
    intro a ha
    have h2 : ¬ a = hp.1 := Nat.ne_of_lt (List.mem_range.mp ha)
    simp [zup, h2]
  · simp [zup]
theorem zHd_cell {w : zWd} {hp : zHp} {H : Heap} (h : zHd w hp H) {i : Nat} (hi : i < hp.1) : va_at w.2.2.2.1 zcls (w.1 + i, ztc w (hp.2 i)) H := h.2 i _ (zwl_get hi)
/-- one more cell -/
theorem zHd_push {w : zWd} {hp : zHp} {H H1 : Heap} {c : zCl} (h : zHd w hp H) (z : H1.size = H.size + 1) (o : ∀ q, q < H.size → H1[q]? = H[q]?) (hc : va_at w.2.2.2.1 zcls (H.size, ztc w c) H1) : zHd w (hp.1 + 1, zup hp.2 hp.1 c) H1 := by
  refine ⟨by rw [z, h.1]; show w.1 + hp.1 + 1 = w.1 + (hp.1 + 1); omega, ?_⟩
  rw [zwl_push]
  refine (h.2.kept (fun k q hk => ?_)).app (fun k q hk => ?_)
  · exact o _ ((h.2 k q hk).lt)
  · have hz : k < 1 := (List.getElem?_eq_some_iff.mp hk).1
    rw [show k = 0 by omega] at hk
    cases hk
    rw [← h.1]
    exact hc
theorem zld_mem : ∀ {l : List (Nat × Value)} {i : Nat} {v : Value}, zld l i = some v → (i, v) ∈ l
  | [], _, _, h => by cases h
  | q :: r, i, v, h => by
    unfold zld at h
    by_cases e : q.1 = i
    · rw [if_pos e] at h
      have e2 := Option.some.inj h
      rw [← e, ← e2]
      exact List.mem_cons_self
    · rw [if_neg e] at h
      exact List.mem_cons_of_mem _ (zld_mem h)
theorem zl_at {w : zWd} {ls : Array Slot} {nL i : Nat} {l : List (Nat × Value)} {v : Value} (h : lv_has ls nL (zlm w l)) (hv : zld l i = some v) : ls[i]? = some (.val (ztv w v)) := h.2.2 (i, ztv w v) (List.mem_map.mpr ⟨(i, v), zld_mem hv, rfl⟩)
theorem zlm_s1 (w : zWd) (l : List (Nat × Value)) (i : Nat) (v : Value) : (i, ztv w v) :: (zlm w l).filter (fun q => !(q.1 == i) && !(q.1 + 1 == i && q.2.category == 2)) = zlm w (zs1 l i v) := by
  unfold zlm zs1
  rw [List.map_cons, List.filter_map]
  congr 2
  apply List.filter_congr
  intro q _
  show (!(q.1 == i) && !(q.1 + 1 == i && (ztv w q.2).category == 2)) = _
  rw [ztv_cat]
theorem zlm_s2 (w : zWd) (l : List (Nat × Value)) (i : Nat) (v : Value) : (i, ztv w v) :: (zlm w l).filter (fun q => !(q.1 == i) && (!(q.1 == i + 1) && !(q.1 + 1 == i && q.2.category == 2))) = zlm w (zs2 l i v) := by
  unfold zlm zs2
  rw [List.map_cons, List.filter_map]
  congr 2
  apply List.filter_congr
  intro q _
  show (!(q.1 == i) && (!(q.1 == i + 1) && !(q.1 + 1 == i && (ztv w q.2).category == 2))) = _
  rw [ztv_cat]
theorem zlm_args (w : zWd) : ∀ (vs : List Value) (i : Nat), zlm w (lv_args i vs) = lv_args i (vs.map (ztv w))
  | [], _ => rfl
  | v :: vs, i => by
    show (i, ztv w v) :: zlm w (lv_args (if v.category = 2 then i + 2 else i + 1) vs) = (i, ztv w v) :: lv_args (if (ztv w v).category = 2 then i + 2 else i + 1) (vs.map (ztv w))
    rw [ztv_cat, zlm_args w vs]
theorem zmap_cat (w : zWd) (l : List Value) : ((l.map (ztv w)).map fun v => v.category) = l.map fun v => v.category := by
  rw [List.map_map]
  apply List.map_congr_left
  intro v _
  exact ztv_cat w v
/-- the kinds of arrays -/
def ztys (w : zWd) : List (ClassId × FieldType) := [(w.2.2.1 0, .int), (w.2.2.1 1, .byte), (w.2.2.1 2, .boolean), (w.2.2.1 3, .long), (w.2.2.1 4, .object "LentTools$Rule"), (w.2.2.1 5, .array .int)]
/-- rows of rows of ints can be made -/
def zAOA (U : State) : Prop := (Cond.arrayOver (.array .int)).before #[] U = true
/-- what holds of the tables, and of what lies outside our cells -/
def zSp (w : zWd) (ev : zEv) (U : State) (H : Heap) : Prop :=
  va_K w.2.2.2.1 zcls (ztys w) U ∧
  (∀ (j t n : Nat) (f : Nat → Int32), ztb ev j = some (t, n, f) → va_T (if t = 0 then .int else .byte) (w.2.1 j) n (fun i => .int (f i)) (zA w) U H) ∧
  (∀ j, j < 6 → va_O "java/lang/String" (w.2.1 (1 + j)) (zA w) U H ∧ va_OF "java/lang/String" "coder" "B" (.int 0) (w.2.1 (1 + j)) (zA w) U H ∧ va_OF "java/lang/String" "value" "[B" (.ref (w.2.1 (20 + j))) (w.2.1 (1 + j)) (zA w) U H) ∧
  (∀ q ∈ zstrs, vk_R q.1 q.2.1 q.2.2.1 (w.2.1 (1 + q.2.2.2)) U) ∧
  (∀ q ∈ znests, va_Nw (.methodLinkNest q.1 q.2.1 q.2.2 "LentTools") U) ∧
  (∀ a, a < 5 → va_Z (zsta a).1 (zsta a).2.1 (zsta a).2.2.1 (ztv w (zsta a).2.2.2) (zA w) U H) ∧
  va_AO "LentTools$Rule" U ∧ zAOA U ∧ va_Nw (.castable "[I" "java/lang/Cloneable") U
theorem zAOA.moved {u U : State} (hvm : u.vm.Alike U.vm) (h : zAOA u) : zAOA U := _root_.Jvm.Stand.arrayOver_alikeB hvm h
theorem ztb_none {ev : zEv} {j : Nat} {x : Nat × Nat × (Nat → Int32)} (h : ztb none j = some x) : ztb ev j = some x := by
  unfold ztb at h ⊢
  by_cases e : j = 0
  · rw [if_pos e] at h
    cases h
  · rw [if_neg e] at h ⊢
    exact h
theorem zSp.go {w : zWd} {ev : zEv} {s U : State} (h : zSp w ev s s.heap) (hW : s.WarmedH U.vm) (hk : ∀ a : Nat, a < s.heap.size → ¬ zA w a → U.heap[a]? = s.heap[a]?) : zSp w none U U.heap := by
  obtain ⟨h1, h2, h3, h4, h5, h6, h7, h8, h9⟩ := h
  exact ⟨va_K.moved hW.alike h1, fun j t n f hj => va_T.moved hW.alike ((h2 j t n f (ztb_none hj)).kept hk), fun j hj => ⟨va_O.moved hW.alike ((h3 j hj).1.kept hk), va_OF.moved hW.alike ((h3 j hj).2.1.kept hk), va_OF.moved hW.alike ((h3 j hj).2.2.kept hk)⟩, fun q hq => (h4 q hq).warm hW, fun q hq => va_Nw.warmM hW (h5 q hq), fun a ha => va_Z.moved hW.alike ((h6 a ha).kept hk), h7.moved hW.alike, zAOA.moved hW.alike h8, va_Nw.warmC hW h9⟩
theorem zSp.same {w : zWd} {ev : zEv} {U V : State} (hvm : V.vm = U.vm) (hh : V.heap = U.heap) (h : zSp w ev U U.heap) : zSp w ev V V.heap := by
  obtain ⟨h1, h2, h3, h4, h5, h6, h7, h8, h9⟩ := h
  have hA : U.vm.Alike V.vm := by rw [hvm]; exact Vm.Alike.refl U.vm
  rw [hh]
  exact ⟨va_K.moved hA h1, fun j t n f hj => va_T.moved hA (h2 j t n f hj), fun j hj => ⟨va_O.moved hA (h3 j hj).1, va_OF.moved hA (h3 j hj).2.1, va_OF.moved hA (h3 j hj).2.2⟩, fun q hq => (h4 q hq).same hvm, fun q hq => va_Nw.same rfl hvm.symm (h5 q hq), fun a ha => va_Z.moved hA (h6 a ha), h7.moved hA, zAOA.moved hA h8, va_Nw.same rfl hvm.symm h9⟩
