/-! Each kind of instruction: a step of the interpreter is a step of the machine. -/
def zCx (w : zWd) (ev : zEv) (d : Nat) (y : MethodName) (cc : ByteArray) (nL : Nat) (rt : Option FieldType) (n0 nF : Nat) (p : Program) (R : Room) (s : State) (m : MethodId) (args : Array Value) (meth : Method) (c : Code) : Prop :=
  p.tables.exec = Jvm.exec ∧ c.code = cc ∧ c.maxLocals = nL ∧ meth.sig.returnType = rt ∧ s.vm.findClass y.cls = some m.cls ∧ (∀ q ∈ zTw, q.before args s = true) ∧ meth.locks = false ∧ (y.name = "<init>" → meth.name = "<init>") ∧ w.1 ≤ s.heap.size ∧ zSp w ev s s.heap ∧ d + 1 ≤ R.frames ∧ 60 * (d + 1) ≤ R.locals ∧ nF - n0 ≤ R.cells ∧ zSL * (nF - n0) ≤ R.slots
def zG (w : zWd) (nL n0 : Nat) (p : Program) (l : Launch) (e : Env) (R : Room) (s : State) (m : MethodId) (args : Array Value) (below : List Frame) (meth : Method) (c : Code) (Q : State → Prop) (fr : zFr) (hp : zHp) : Prop :=
  ∀ (H : Heap) (locs : List Loc) (ls : Array Slot), zHd w hp H → va_S (zA w) s.heap H locs → lv_has ls nL (zlm w fr.2.1) → W p l e R s m args below meth c H locs (hp.1 - n0) (zSL * (hp.1 - n0)) Q (F0 m fr.1 ls (fr.2.2.map (ztv w)))
section ZARM
variable {p : Program} {l : Launch} {e : Env} {R : Room} {s : State} {m : MethodId} {args : Array Value} {below : List Frame} {meth : Method} {c : Code} {Q : State → Prop} {w : zWd} {ev : zEv} {d : Nat} {y : MethodName} {cc : ByteArray} {nL : Nat} {rt : Option FieldType} {n0 nF : Nat} {fr fr' : zFr} {hp hp' : zHp}
theorem za_push {k : Nat} {v : Value} (h : zPush k v fr hp = some (.inl (fr', hp'))) (K : zG w nL n0 p l e R s m args below meth c Q fr' hp')
    (row : ∀ (H : Heap) (locs : List Loc) (cells slots : Nat) (ls : Array Slot) (rest : List Value), va_S (zA w) s.heap H locs → W p l e R s m args below meth c H locs cells slots Q (F0 m (fr.1 + k) ls (ztv w v :: rest)) → W p l e R s m args below meth c H locs cells slots Q (F0 m fr.1 ls rest)) : zG w nL n0 p l e R s m args below meth c Q fr hp := by
  unfold zPush zn at h
  cases h
  intro H locs ls hH hS hl
  exact row H locs _ _ ls _ hS (K H locs ls hH hS hl)
theorem za_loadI {k i : Nat} (h : zLoadI k i fr hp = some (.inl (fr', hp'))) (K : zG w nL n0 p l e R s m args below meth c Q fr' hp')
    (row : ∀ (H : Heap) (locs : List Loc) (cells slots : Nat) (ls : Array Slot) (rest : List Value) (x : Int32), ls[i]? = some (.val (.int x)) → W p l e R s m args below meth c H locs cells slots Q (F0 m (fr.1 + k) ls (.int x :: rest)) → W p l e R s m args below meth c H locs cells slots Q (F0 m fr.1 ls rest)) : zG w nL n0 p l e R s m args below meth c Q fr hp := by
  unfold zLoadI zn at h
  split at h
  · next x hx =>
    cases h
    intro H locs ls hH hS hl
    exact row H locs _ _ ls _ x (zl_at hl hx) (K H locs ls hH hS hl)
  · cases h
theorem za_loadL {k i : Nat} (h : zLoadL k i fr hp = some (.inl (fr', hp'))) (K : zG w nL n0 p l e R s m args below meth c Q fr' hp')
    (row : ∀ (H : Heap) (locs : List Loc) (cells slots : Nat) (ls : Array Slot) (rest : List Value) (x : Int64), ls[i]? = some (.val (.long x)) → W p l e R s m args below meth c H locs cells slots Q (F0 m (fr.1 + k) ls (.long x :: rest)) → W p l e R s m args below meth c H locs cells slots Q (F0 m fr.1 ls rest)) : zG w nL n0 p l e R s m args below meth c Q fr hp := by
  unfold zLoadL zn at h
  split at h
  · next x hx =>
    cases h
    intro H locs ls hH hS hl
    exact row H locs _ _ ls _ x (zl_at hl hx) (K H locs ls hH hS hl)
  · cases h
theorem za_loadA {k i : Nat} (h : zLoadA k i fr hp = some (.inl (fr', hp'))) (K : zG w nL n0 p l e R s m args below meth c Q fr' hp')
    (row : ∀ (H : Heap) (locs : List Loc) (cells slots : Nat) (ls : Array Slot) (rest : List Value) (x : Nat), ls[i]? = some (.val (.ref x)) → W p l e R s m args below meth c H locs cells slots Q (F0 m (fr.1 + k) ls (.ref x :: rest)) → W p l e R s m args below meth c H locs cells slots Q (F0 m fr.1 ls rest))
    (rowN : ∀ (H : Heap) (locs : List Loc) (cells slots : Nat) (ls : Array Slot) (rest : List Value), ls[i]? = some (.val .null) → W p l e R s m args below meth c H locs cells slots Q (F0 m (fr.1 + k) ls (.null :: rest)) → W p l e R s m args below meth c H locs cells slots Q (F0 m fr.1 ls rest)) : zG w nL n0 p l e R s m args below meth c Q fr hp := by
  unfold zLoadA zn at h
  split at h
  · next x hx =>
    cases h
    intro H locs ls hH hS hl
    exact row H locs _ _ ls _ _ (zl_at hl hx) (K H locs ls hH hS hl)
  · next hx =>
    cases h
    intro H locs ls hH hS hl
    exact rowN H locs _ _ ls _ (zl_at hl hx) (K H locs ls hH hS hl)
  · cases h
theorem za_stoI {k i : Nat} (h : zStoI k i nL fr hp = some (.inl (fr', hp'))) (K : zG w nL n0 p l e R s m args below meth c Q fr' hp')
    (row : ∀ (H : Heap) (locs : List Loc) (cells slots : Nat) (ls : Array Slot) (rest : List Value) (x : Int32) (lv lv' : List (Nat × Value)), lv_has ls nL lv → i < nL → (i, Value.int x) :: lv.filter (fun q => !(q.1 == i) && !(q.1 + 1 == i && q.2.category == 2)) = lv' → (∀ ls' : Array Slot, lv_has ls' nL lv' → W p l e R s m args below meth c H locs cells slots Q (F0 m (fr.1 + k) ls' rest)) → W p l e R s m args below meth c H locs cells slots Q (F0 m fr.1 ls (.int x :: rest))) : zG w nL n0 p l e R s m args below meth c Q fr hp := by
  unfold zStoI zn at h
  split at h
  · next x r hx =>
    split at h
    · next hi =>
      cases h
      intro H locs ls hH hS hl
      rw [hx]
      exact row H locs _ _ ls _ x _ _ hl hi (zlm_s1 w fr.2.1 i (.int x)) (fun ls' hl' => K H locs ls' hH hS hl')
    · cases h
  · cases h
theorem za_stoL {k i : Nat} (h : zStoL k i nL fr hp = some (.inl (fr', hp'))) (K : zG w nL n0 p l e R s m args below meth c Q fr' hp')
    (row : ∀ (H : Heap) (locs : List Loc) (cells slots : Nat) (ls : Array Slot) (rest : List Value) (x : Int64) (lv lv' : List (Nat × Value)), lv_has ls nL lv → i + 1 < nL → (i, Value.long x) :: lv.filter (fun q => !(q.1 == i) && (!(q.1 == i + 1) && !(q.1 + 1 == i && q.2.category == 2))) = lv' → (∀ ls' : Array Slot, lv_has ls' nL lv' → W p l e R s m args below meth c H locs cells slots Q (F0 m (fr.1 + k) ls' rest)) → W p l e R s m args below meth c H locs cells slots Q (F0 m fr.1 ls (.long x :: rest))) : zG w nL n0 p l e R s m args below meth c Q fr hp := by
  unfold zStoL zn at h
  split at h
  · next x r hx =>
    split at h
    · next hi =>
      cases h
      intro H locs ls hH hS hl
      rw [hx]
      exact row H locs _ _ ls _ x _ _ hl hi (zlm_s2 w fr.2.1 i (.long x)) (fun ls' hl' => K H locs ls' hH hS hl')
    · cases h
  · cases h
theorem za_stoA {k i : Nat} (h : zStoA k i nL fr hp = some (.inl (fr', hp'))) (K : zG w nL n0 p l e R s m args below meth c Q fr' hp')
    (row : ∀ (H : Heap) (locs : List Loc) (cells slots : Nat) (ls : Array Slot) (rest : List Value) (x : Nat) (lv lv' : List (Nat × Value)), lv_has ls nL lv → i < nL → (i, Value.ref x) :: lv.filter (fun q => !(q.1 == i) && !(q.1 + 1 == i && q.2.category == 2)) = lv' → (∀ ls' : Array Slot, lv_has ls' nL lv' → W p l e R s m args below meth c H locs cells slots Q (F0 m (fr.1 + k) ls' rest)) → W p l e R s m args below meth c H locs cells slots Q (F0 m fr.1 ls (.ref x :: rest)))
    (rowN : ∀ (H : Heap) (locs : List Loc) (cells slots : Nat) (ls : Array Slot) (rest : List Value) (lv lv' : List (Nat × Value)), lv_has ls nL lv → i < nL → (i, Value.null) :: lv.filter (fun q => !(q.1 == i) && !(q.1 + 1 == i && q.2.category == 2)) = lv' → (∀ ls' : Array Slot, lv_has ls' nL lv' → W p l e R s m args below meth c H locs cells slots Q (F0 m (fr.1 + k) ls' rest)) → W p l e R s m args below meth c H locs cells slots Q (F0 m fr.1 ls (.null :: rest))) : zG w nL n0 p l e R s m args below meth c Q fr hp := by
  unfold zStoA zn at h
  split at h
  · next x r hx =>
    split at h
    · next hi =>
      cases h
      intro H locs ls hH hS hl
      rw [hx]
      exact row H locs _ _ ls _ _ _ _ hl hi (zlm_s1 w fr.2.1 i (.ref x)) (fun ls' hl' => K H locs ls' hH hS hl')
    · cases h
  · next r hx =>
    split at h
    · next hi =>
      cases h
      intro H locs ls hH hS hl
      rw [hx]
      exact rowN H locs _ _ ls _ _ _ hl hi (zlm_s1 w fr.2.1 i .null) (fun ls' hl' => K H locs ls' hH hS hl')
    · cases h
  · cases h
theorem za_inc (C : zCx w ev d y cc nL rt n0 nF p R s m args meth c) {i : Nat} {n : Int} (hd : decode cc fr.1 = .ok (.iinc i n, 3)) (h : zInc i n nL fr hp = some (.inl (fr', hp'))) (K : zG w nL n0 p l e R s m args below meth c Q fr' hp') : zG w nL n0 p l e R s m args below meth c Q fr hp := by
  unfold zInc zn at h
  split at h
  · next x hx =>
    split at h
    · next hi =>
      cases h
      intro H locs ls hH hS hl
      obtain ⟨k, hk⟩ := List.getElem?_of_mem (List.mem_map.mpr ⟨(i, Value.int x), zld_mem hx, rfl⟩ : (i, ztv w (.int x)) ∈ zlm w fr.2.1)
      exact lv_iinc C.1 C.2.1 hd hl hk rfl hi (zlm_s1 w fr.2.1 i (.int (x + Int32.ofInt n))) (fun ls' hl' => K H locs ls' hH hS hl')
    · cases h
  · cases h
theorem za_bin {f : Int32 → Int32 → Int32} (h : zBin f fr hp = some (.inl (fr', hp'))) (K : zG w nL n0 p l e R s m args below meth c Q fr' hp')
    (row : ∀ (H : Heap) (locs : List Loc) (cells slots : Nat) (ls : Array Slot) (rest : List Value) (x y : Int32), W p l e R s m args below meth c H locs cells slots Q (F0 m (fr.1 + 1) ls (.int (f x y) :: rest)) → W p l e R s m args below meth c H locs cells slots Q (F0 m fr.1 ls (.int y :: .int x :: rest))) : zG w nL n0 p l e R s m args below meth c Q fr hp := by
  unfold zBin zn at h
  split at h
  · next y x r hx =>
    cases h
    intro H locs ls hH hS hl
    rw [hx]
    exact row H locs _ _ ls _ x y (K H locs ls hH hS hl)
  · cases h
theorem za_binD {f : Int32 → Int32 → Int32} (h : zBinD f fr hp = some (.inl (fr', hp'))) (K : zG w nL n0 p l e R s m args below meth c Q fr' hp')
    (row : ∀ (H : Heap) (locs : List Loc) (cells slots : Nat) (ls : Array Slot) (rest : List Value) (x y : Int32), ¬ y = 0 → W p l e R s m args below meth c H locs cells slots Q (F0 m (fr.1 + 1) ls (.int (f x y) :: rest)) → W p l e R s m args below meth c H locs cells slots Q (F0 m fr.1 ls (.int y :: .int x :: rest))) : zG w nL n0 p l e R s m args below meth c Q fr hp := by
  unfold zBinD zn at h
  split at h
  · next y x r hx =>
    split at h
    · cases h
    · next hy =>
      cases h
      intro H locs ls hH hS hl
      rw [hx]
      exact row H locs _ _ ls _ x y hy (K H locs ls hH hS hl)
  · cases h
theorem za_bnl {f : Int64 → Int64 → Int64} (h : zBnl f fr hp = some (.inl (fr', hp'))) (K : zG w nL n0 p l e R s m args below meth c Q fr' hp')
    (row : ∀ (H : Heap) (locs : List Loc) (cells slots : Nat) (ls : Array Slot) (rest : List Value) (x y : Int64), W p l e R s m args below meth c H locs cells slots Q (F0 m (fr.1 + 1) ls (.long (f x y) :: rest)) → W p l e R s m args below meth c H locs cells slots Q (F0 m fr.1 ls (.long y :: .long x :: rest))) : zG w nL n0 p l e R s m args below meth c Q fr hp := by
  unfold zBnl zn at h
  split at h
  · next y x r hx =>
    cases h
    intro H locs ls hH hS hl
    rw [hx]
    exact row H locs _ _ ls _ x y (K H locs ls hH hS hl)
  · cases h
theorem za_bnlD {f : Int64 → Int64 → Int64} (h : zBnlD f fr hp = some (.inl (fr', hp'))) (K : zG w nL n0 p l e R s m args below meth c Q fr' hp')
    (row : ∀ (H : Heap) (locs : List Loc) (cells slots : Nat) (ls : Array Slot) (rest : List Value) (x y : Int64), ¬ y = 0 → W p l e R s m args below meth c H locs cells slots Q (F0 m (fr.1 + 1) ls (.long (f x y) :: rest)) → W p l e R s m args below meth c H locs cells slots Q (F0 m fr.1 ls (.long y :: .long x :: rest))) : zG w nL n0 p l e R s m args below meth c Q fr hp := by
  unfold zBnlD zn at h
  split at h
  · next y x r hx =>
    split at h
    · cases h
    · next hy =>
      cases h
      intro H locs ls hH hS hl
      rw [hx]
      exact row H locs _ _ ls _ x y hy (K H locs ls hH hS hl)
  · cases h
theorem za_lshl (C : zCx w ev d y cc nL rt n0 nF p R s m args meth c) (hd : decode cc fr.1 = .ok (.lshl, 1)) (h : zLshl fr hp = some (.inl (fr', hp'))) (K : zG w nL n0 p l e R s m args below meth c Q fr' hp') : zG w nL n0 p l e R s m args below meth c Q fr hp := by
  unfold zLshl zn at h
  split at h
  · next y x r hx =>
    cases h
    intro H locs ls hH hS hl
    rw [hx]
    exact lv_lshl C.1 C.2.1 hd rfl (K H locs ls hH hS hl)
  · cases h
theorem za_lcmp (C : zCx w ev d y cc nL rt n0 nF p R s m args meth c) (hd : decode cc fr.1 = .ok (.lcmp, 1)) (h : zLcmp fr hp = some (.inl (fr', hp'))) (K : zG w nL n0 p l e R s m args below meth c Q fr' hp') : zG w nL n0 p l e R s m args below meth c Q fr hp := by
  unfold zLcmp zn at h
  split at h
  · next y x r hx =>
    cases h
    intro H locs ls hH hS hl
    rw [hx]
    exact W.lcmp C.1 C.2.1 hd (K H locs ls hH hS hl)
  · cases h
theorem za_un {f : Int32 → Value} (h : zUn f fr hp = some (.inl (fr', hp'))) (K : zG w nL n0 p l e R s m args below meth c Q fr' hp')
    (row : ∀ (H : Heap) (locs : List Loc) (cells slots : Nat) (ls : Array Slot) (rest : List Value) (x : Int32), W p l e R s m args below meth c H locs cells slots Q (F0 m (fr.1 + 1) ls (ztv w (f x) :: rest)) → W p l e R s m args below meth c H locs cells slots Q (F0 m fr.1 ls (.int x :: rest))) : zG w nL n0 p l e R s m args below meth c Q fr hp := by
  unfold zUn zn at h
  split at h
  · next x r hx =>
    cases h
    intro H locs ls hH hS hl
    rw [hx]
    exact row H locs _ _ ls _ x (K H locs ls hH hS hl)
  · cases h
theorem za_unl {f : Int64 → Value} (h : zUnl f fr hp = some (.inl (fr', hp'))) (K : zG w nL n0 p l e R s m args below meth c Q fr' hp')
    (row : ∀ (H : Heap) (locs : List Loc) (cells slots : Nat) (ls : Array Slot) (rest : List Value) (x : Int64), W p l e R s m args below meth c H locs cells slots Q (F0 m (fr.1 + 1) ls (ztv w (f x) :: rest)) → W p l e R s m args below meth c H locs cells slots Q (F0 m fr.1 ls (.long x :: rest))) : zG w nL n0 p l e R s m args below meth c Q fr hp := by
  unfold zUnl zn at h
  split at h
  · next x r hx =>
    cases h
    intro H locs ls hH hS hl
    rw [hx]
    exact row H locs _ _ ls _ x (K H locs ls hH hS hl)
  · cases h
theorem za_dup (C : zCx w ev d y cc nL rt n0 nF p R s m args meth c) (hd : decode cc fr.1 = .ok (.dup, 1)) (h : zDup fr hp = some (.inl (fr', hp'))) (K : zG w nL n0 p l e R s m args below meth c Q fr' hp') : zG w nL n0 p l e R s m args below meth c Q fr hp := by
  unfold zDup zn at h
  split at h
  · next v r hx =>
    split at h
    · next hv =>
      cases h
      intro H locs ls hH hS hl
      rw [hx]
      exact lv_dup C.1 C.2.1 hd ((ztv_cat w v).trans hv) (K H locs ls hH hS hl)
    · cases h
  · cases h
theorem za_dup2 (C : zCx w ev d y cc nL rt n0 nF p R s m args meth c) (hd : decode cc fr.1 = .ok (.dup2, 1)) (h : zDup2 fr hp = some (.inl (fr', hp'))) (K : zG w nL n0 p l e R s m args below meth c Q fr' hp') : zG w nL n0 p l e R s m args below meth c Q fr hp := by
  unfold zDup2 zn at h
  split at h
  · next v u r hx =>
    split at h
    · next hv =>
      cases h
      intro H locs ls hH hS hl
      rw [hx]
      exact lv_dup2_11 C.1 C.2.1 hd ((ztv_cat w v).trans hv.1) ((ztv_cat w u).trans hv.2) (K H locs ls hH hS hl)
    · cases h
  · cases h
theorem za_pop (C : zCx w ev d y cc nL rt n0 nF p R s m args meth c) (hd : decode cc fr.1 = .ok (.pop, 1)) (h : zPop fr hp = some (.inl (fr', hp'))) (K : zG w nL n0 p l e R s m args below meth c Q fr' hp') : zG w nL n0 p l e R s m args below meth c Q fr hp := by
  unfold zPop zn at h
  split at h
  · next v r hx =>
    split at h
    · next hv =>
      cases h
      intro H locs ls hH hS hl
      rw [hx]
      exact lv_pop C.1 C.2.1 hd ((ztv_cat w v).trans hv) (K H locs ls hH hS hl)
    · cases h
  · cases h
theorem za_if (C : zCx w ev d y cc nL rt n0 nF p R s m args meth c) {cd : _root_.Jvm.ClassFile.Cond} {off : Int} {a : Nat} (hd : decode cc fr.1 = .ok (.ifCond cd off, 3)) (ht : (fr.1 : Int) + off = (a : Int)) (h : zIf cd a fr hp = some (.inl (fr', hp'))) (K : zG w nL n0 p l e R s m args below meth c Q fr' hp') : zG w nL n0 p l e R s m args below meth c Q fr hp := by
  unfold zIf zn at h
  split at h
  · next x r hx =>
    cases h
    intro H locs ls hH hS hl
    rw [hx]
    have k1 : zcmp cd x 0 = true → W p l e R s m args below meth c H locs (hp.1 - n0) (zSL * (hp.1 - n0)) Q (F0 m a ls (r.map (ztv w))) := fun q => by
      have := K H locs ls hH hS hl
      rw [if_pos q] at this
      exact this
    have k2 : ¬ zcmp cd x 0 = true → W p l e R s m args below meth c H locs (hp.1 - n0) (zSL * (hp.1 - n0)) Q (F0 m (fr.1 + 3) ls (r.map (ztv w))) := fun q => by
      have := K H locs ls hH hS hl
      rw [if_neg q] at this
      exact this
    cases cd with
    | eq => exact lv_if_eq C.1 C.2.1 hd ht (fun q => k1 (decide_eq_true q)) (fun q => k2 (fun z => q (of_decide_eq_true z)))
    | ne => exact lv_if_ne C.1 C.2.1 hd ht (fun q => k1 (decide_eq_true q)) (fun q => k2 (fun z => of_decide_eq_true z q))
    | lt => exact lv_if_lt C.1 C.2.1 hd ht (fun q => k1 (decide_eq_true q)) (fun q => k2 (fun z => q (of_decide_eq_true z)))
    | ge => exact lv_if_ge C.1 C.2.1 hd ht (fun q => k1 (decide_eq_true q)) (fun q => k2 (fun z => q (of_decide_eq_true z)))
    | gt => exact lv_if_gt C.1 C.2.1 hd ht (fun q => k1 (decide_eq_true q)) (fun q => k2 (fun z => q (of_decide_eq_true z)))
    | le => exact lv_if_le C.1 C.2.1 hd ht (fun q => k1 (decide_eq_true q)) (fun q => k2 (fun z => q (of_decide_eq_true z)))
  · cases h
theorem za_ifc (C : zCx w ev d y cc nL rt n0 nF p R s m args meth c) {cd : _root_.Jvm.ClassFile.Cond} {off : Int} {a : Nat} (hd : decode cc fr.1 = .ok (.if_icmp cd off, 3)) (ht : (fr.1 : Int) + off = (a : Int)) (h : zIfc cd a fr hp = some (.inl (fr', hp'))) (K : zG w nL n0 p l e R s m args below meth c Q fr' hp') : zG w nL n0 p l e R s m args below meth c Q fr hp := by
  unfold zIfc zn at h
  split at h
  · next y x r hx =>
    cases h
    intro H locs ls hH hS hl
    rw [hx]
    have k1 : zcmp cd x y = true → W p l e R s m args below meth c H locs (hp.1 - n0) (zSL * (hp.1 - n0)) Q (F0 m a ls (r.map (ztv w))) := fun q => by
      have := K H locs ls hH hS hl
      rw [if_pos q] at this
      exact this
    have k2 : ¬ zcmp cd x y = true → W p l e R s m args below meth c H locs (hp.1 - n0) (zSL * (hp.1 - n0)) Q (F0 m (fr.1 + 3) ls (r.map (ztv w))) := fun q => by
      have := K H locs ls hH hS hl
      rw [if_neg q] at this
      exact this
    cases cd with
    | eq => exact lv_icmp_eq C.1 C.2.1 hd ht (fun q => k1 (decide_eq_true q)) (fun q => k2 (fun z => q (of_decide_eq_true z)))
    | ne => exact lv_icmp_ne C.1 C.2.1 hd ht (fun q => k1 (decide_eq_true q)) (fun q => k2 (fun z => of_decide_eq_true z q))
    | lt => exact lv_icmp_lt C.1 C.2.1 hd ht (fun q => k1 (decide_eq_true q)) (fun q => k2 (fun z => q (of_decide_eq_true z)))
    | ge => exact lv_icmp_ge C.1 C.2.1 hd ht (fun q => k1 (decide_eq_true q)) (fun q => k2 (fun z => q (of_decide_eq_true z)))
    | gt => exact lv_icmp_gt C.1 C.2.1 hd ht (fun q => k1 (decide_eq_true q)) (fun q => k2 (fun z => q (of_decide_eq_true z)))
    | le => exact lv_icmp_le C.1 C.2.1 hd ht (fun q => k1 (decide_eq_true q)) (fun q => k2 (fun z => q (of_decide_eq_true z)))
  · cases h
theorem za_goto (C : zCx w ev d y cc nL rt n0 nF p R s m args meth c) {off : Int} {a : Nat} (hd : decode cc fr.1 = .ok (.goto off, 3)) (ht : (fr.1 : Int) + off = (a : Int)) (h : zn a fr.2.1 fr.2.2 hp = some (.inl (fr', hp'))) (K : zG w nL n0 p l e R s m args below meth c Q fr' hp') : zG w nL n0 p l e R s m args below meth c Q fr hp := by
  unfold zn at h
  cases h
  intro H locs ls hH hS hl
  exact lv_goto C.1 C.2.1 hd ht (K H locs ls hH hS hl)
theorem za_nul (C : zCx w ev d y cc nL rt n0 nF p R s m args meth c) {off : Int} {a : Nat} (hd : decode cc fr.1 = .ok (.ifnull off, 3)) (ht : (fr.1 : Int) + off = (a : Int)) (h : zNul a fr hp = some (.inl (fr', hp'))) (K : zG w nL n0 p l e R s m args below meth c Q fr' hp') : zG w nL n0 p l e R s m args below meth c Q fr hp := by
  unfold zNul zn at h
  split at h
  · next i r hx =>
    cases h
    intro H locs ls hH hS hl
    rw [hx]
    exact lv_ifnull C.1 C.2.1 hd (K H locs ls hH hS hl)
  · next r hx =>
    cases h
    intro H locs ls hH hS hl
    rw [hx]
    exact lv_ifnullN C.1 C.2.1 hd ht (K H locs ls hH hS hl)
  · cases h
theorem za_nnl (C : zCx w ev d y cc nL rt n0 nF p R s m args meth c) {off : Int} {a : Nat} (hd : decode cc fr.1 = .ok (.ifnonnull off, 3)) (ht : (fr.1 : Int) + off = (a : Int)) (h : zNnl a fr hp = some (.inl (fr', hp'))) (K : zG w nL n0 p l e R s m args below meth c Q fr' hp') : zG w nL n0 p l e R s m args below meth c Q fr hp := by
  unfold zNnl zn at h
  split at h
  · next i r hx =>
    cases h
    intro H locs ls hH hS hl
    rw [hx]
    exact lv_ifnonnull C.1 C.2.1 hd ht (K H locs ls hH hS hl)
  · next r hx =>
    cases h
    intro H locs ls hH hS hl
    rw [hx]
    exact lv_ifnonnullN C.1 C.2.1 hd (K H locs ls hH hS hl)
  · cases h
theorem zu_jmp {off : Int} {lv : List (Nat × Value)} {r : List Value} {pc : Nat} {z : (zFr × zHp) ⊕ zRe} (h : zJmp off lv r pc hp = some z) : ∃ t : Nat, (pc : Int) + off = (t : Int) ∧ z = .inl ((t, lv, r), hp) := by
  unfold zJmp zn at h
  split at h
  · next q => exact ⟨_, q, (Option.some.inj h).symm⟩
  · cases h
theorem za_tab (C : zCx w ev d y cc nL rt n0 nF p R s m args meth c) {df lo hi : Int} {offs : Array Int} {len : Nat} (hd : decode cc fr.1 = .ok (.tableswitch df lo hi offs, len)) (h : zTab df lo hi offs fr hp = some (.inl (fr', hp'))) (K : zG w nL n0 p l e R s m args below meth c Q fr' hp') : zG w nL n0 p l e R s m args below meth c Q fr hp := by
  unfold zTab at h
  split at h
  · next x r hx =>
    split at h
    · next ho =>
      obtain ⟨t, ht, hz⟩ := zu_jmp h
      cases hz
      intro H locs ls hH hS hl
      rw [hx]
      exact lv_tableOut C.1 C.2.1 hd ho ht (K H locs ls hH hS hl)
    · next ho =>
      split at h
      · next off hoff =>
        obtain ⟨t, ht, hz⟩ := zu_jmp h
        cases hz
        intro H locs ls hH hS hl
        rw [hx]
        exact lv_tableIn C.1 C.2.1 hd (fun q => ho (Or.inl q)) (fun q => ho (Or.inr q)) hoff ht (K H locs ls hH hS hl)
      · cases h
  · cases h
theorem za_lkp (C : zCx w ev d y cc nL rt n0 nF p R s m args meth c) {df : Int} {ps : Array (Int × Int)} {len : Nat} (hd : decode cc fr.1 = .ok (.lookupswitch df ps, len)) (h : zLkp df ps fr hp = some (.inl (fr', hp'))) (K : zG w nL n0 p l e R s m args below meth c Q fr' hp') : zG w nL n0 p l e R s m args below meth c Q fr hp := by
  unfold zLkp at h
  split at h
  · next x r hx =>
    split at h
    · next ho =>
      obtain ⟨t, ht, hz⟩ := zu_jmp h
      cases hz
      intro H locs ls hH hS hl
      rw [hx]
      exact lv_lookup C.1 C.2.1 hd ho rfl ht (K H locs ls hH hS hl)
    · cases h
  · cases h
end ZARM
