/-! THE CLAIM OUT OF ONE WALK OF THE LAW'S BODY. Your part is whole_start (and what it stands on); all else here is the same for every law, but numbers. -/
def R_law : String := "LentToolsLaw"
def lw_P (b : Addr) (xs : List Int32) (args : Array Value) (s : State) : Prop := args = #[.ref b] ∧ s.IntsAt b xs ∧ xs.length ≤ 3072 ∧ (Jvm.Cond.and given_1 narrow_1).before args s = true
def lw_Q (_ : Array Value) (s : State) (o : Outcome) (t : State) : Prop := o = .returned (some (.int 1)) ∧ Framed s o t [] 600000 7302250
def lw_Z (below : List Frame) (a : Array Value) (s : State) : State → Prop := fun t => ∃ o, t.status = .running ∧ Ended t below o ∧ lw_Q a s o t
/-- the law's own end, with 1 on the stack, nothing written that was there before, its room as the claim has it -/
theorem lw_ret {p : Program} {l : Launch} {e : Env} {s : State} {m : MethodId} {below : List Frame} {meth : Method} {c : Code} {b : Nat} (hx : p.tables.exec = Jvm.exec) (hb : c.code = code) (hr : meth.sig.returnType = ret) (hlocks : meth.locks = false) {pc : Nat} {H : Heap} {ls : Array Slot} (hdg : decode code pc = .ok (.ireturn, 1)) : W p l e room_1 s m #[Value.ref b] below meth c H [] 600000 7302250 (lw_Z below #[Value.ref b] s) (F0 m pc ls [.int 1]) := by
  intro T hT X
  obtain ⟨fs, hret, hrun, hended, hW, hframe⟩ := X.leave (v := some (.int 1)) (hlocks := hlocks) (fun h => by rw [hr] at h; cases h)
  have hmeth' : T.vm.method? m = some meth := X.method'
  refine ⟨T.setFrames fs, ?_, .returned (some (.int 1)), hrun, hended, rfl, ⟨_, rfl⟩, hW, hframe⟩
  jvm_step X.here [X.here.top, hx, hb, hdg, hmeth', hr, ret, narrow_b1]
  (try refine ⟨rfl, ?_⟩); (try refine ⟨rfl, ?_⟩)
  first | (intro acts; rw [hret _ acts rfl rfl rfl]) | rw [hret _ _ rfl rfl rfl]
  exact Steps.refl _
/-- what holds at the law's entry: the machine, the code, the tables' words (any of lw_tbl by 'hts w (by decide +kernel)'), the script of L ints xs at the cell b, what the Statement gives of the start (any of its parts by flat_of_before) -/
def lw_At (p : Program) (s : State) (m : MethodId) (meth : Method) (c : Code) (b L : Nat) (xs : Nat → Int32) : Prop :=
  p.tables.exec = Jvm.exec ∧ c.code = code ∧ meth.sig.returnType = ret ∧ c.maxLocals = 4 ∧ s.vm.findClass R_law = some m.cls ∧ (∀ w ∈ lw_tbl, w.before #[Value.ref b] s = true) ∧ va_X b L xs s s.heap ∧ b < s.heap.size ∧ meth.locks = false ∧ (Jvm.Cond.and given_1 narrow_1).before #[Value.ref b] s = true
/-! From the law's entry: what the Statement gives makes the world. -/
def zfl : List Cond := flatC (Jvm.Cond.and given_1 narrow_1)
def zfm (q : Cond) : Bool := decide (q ∈ zfl)
def zlm_w (q : Cond) : Bool := decide (q ∈ lw_tbl)
theorem zlm_q {w : Cond} (h : zlmq w = true) : zlm_w w = true := decide_eq_true (zlmq_m h)
def ztm (i : Nat) : Term := Term.string (zstrs.getD i ("", 0, "", 0)).1 (zstrs.getD i ("", 0, "", 0)).2.1
theorem zst_ln : ∀ i, i < 6 → zsl.getD i 0 < 2 ^ 31 := by decide +kernel
theorem zst_ex : (List.range 6).all (fun i => zfm (.exactly (ztm i) "java/lang/String")) = true := by decide +kernel
theorem zst_co : (List.range 6).all (fun i => zfm (.eq (.field (ztm i) "java/lang/String" "coder" "B") (.int 0))) = true := by decide +kernel
theorem zst_ar : (List.range 6).all (fun i => zfm (.arrayOf (.field (ztm i) "java/lang/String" "value" "[B") .byte)) = true := by decide +kernel
theorem zst_le : (List.range 6).all (fun i => zfm (.eq (.length (.field (ztm i) "java/lang/String" "value" "[B")) (.int (Int32.ofNat (zsl.getD i 0))))) = true := by decide +kernel
/-- a search that looks at places before names -/
def zkf : Cond → Nat
  | .eq (.elem (.field (.string _ k) _ _ _) (.int j)) _ => 1000 * (k + 1) + j.toInt.toNat
  | .eq (.elem (.static _ _ _) (.int j)) (.int v) => 9000000 + 1000 * j.toInt.toNat + v.toInt.toNat
  | .not (.eq (.string _ a) (.string _ b)) => 5000000 + 1000 * a + b
  | _ => 0
def zfmq (q : Cond) : Bool := zfl.any (fun x => Nat.beq (zkf x) (zkf q) && decide (x = q))
theorem zfm_q {q : Cond} (h : zfmq q = true) : zfm q = true := by
  unfold zfmq at h
  rw [List.any_eq_true] at h
  obtain ⟨x, hx, h⟩ := h
  rw [Bool.and_eq_true, decide_eq_true_eq] at h
  unfold zfm
  rw [← h.2]
  exact decide_eq_true hx
theorem zst_elq : (List.range 6).all (fun i => (List.range (zsl.getD i 0)).all (fun j => zfmq (.eq (.elem (.field (ztm i) "java/lang/String" "value" "[B") (.int (Int32.ofNat j))) (.int ((zsb.getD i []).getD j 0))))) = true := by decide +kernel
theorem zst_el : (List.range 6).all (fun i => (List.range (zsl.getD i 0)).all (fun j => zfm (.eq (.elem (.field (ztm i) "java/lang/String" "value" "[B") (.int (Int32.ofNat j))) (.int ((zsb.getD i []).getD j 0))))) = true := all_q (fun i h => all_q (fun j h2 => zfm_q h2) h) zst_elq
theorem zst_neq : (List.range 6).all (fun i => (List.range 6).all (fun j => decide (i = j) || (zfmq (.not (.eq (ztm i) (ztm j))) || zfmq (.not (.eq (ztm j) (ztm i)))))) = true := by decide +kernel
theorem zst_ne : (List.range 6).all (fun i => (List.range 6).all (fun j => decide (i = j) || (zfm (.not (.eq (ztm i) (ztm j))) || zfm (.not (.eq (ztm j) (ztm i)))))) = true := all_q (fun i h => all_q (fun j h2 => by
  rw [Bool.or_eq_true, Bool.or_eq_true] at h2 ⊢
  exact h2.imp id (fun z => z.imp zfm_q zfm_q)) h) zst_neq
def zrn (i : Nat) : String := match i with
  | 0 => "STARTS"
  | 1 => "LEAST"
  | _ => "GREATEST"
def zrt (i : Nat) : Term := Term.static "LentTools$VillageReader" (zrn i) "[I"
theorem zrw_ar : (List.range 3).all (fun i => zfm (.arrayOf (zrt i) .int)) = true := by decide +kernel
theorem zrw_le : (List.range 3).all (fun i => zfm (.eq (.length (zrt i)) (.int (Int32.ofNat (zrw.getD i []).length)))) = true := by decide +kernel
theorem zrw_elq : (List.range 3).all (fun i => (List.range (zrw.getD i []).length).all (fun j => zfmq (.eq (.elem (zrt i) (.int (Int32.ofNat j))) (.int ((zrw.getD i []).getD j 0))))) = true := by decide +kernel
theorem zrw_el : (List.range 3).all (fun i => (List.range (zrw.getD i []).length).all (fun j => zfm (.eq (.elem (zrt i) (.int (Int32.ofNat j))) (.int ((zrw.getD i []).getD j 0))))) = true := all_q (fun i h => all_q (fun j h2 => zfm_q h2) h) zrw_elq
theorem zrw_ls : (List.range 3).all (fun i => zlm_w (.laysStatic "LentTools$VillageReader" (zrn i) "[I")) = true := all_q (fun _ => zlm_q) (by decide +kernel)
theorem zrw_in : zlm_w (.initialized "LentTools$VillageReader") = true := zlm_q (by decide +kernel)
theorem zcs_1 : zlm_w (.laysStatic "java/lang/String" "COMPACT_STRINGS" "Z") = true := zlm_q (by decide +kernel)
theorem zcs_2 : zlm_w (.initialized "java/lang/String") = true := zlm_q (by decide +kernel)
theorem zcs_3 : zfm (.eq (.static "java/lang/String" "COMPACT_STRINGS" "Z") (.int 1)) = true := by decide +kernel
theorem zfo_1 : zlm_w (.laysStatic "jdk/internal/util/Preconditions" "SIOOBE_FORMATTER" "Ljava/util/function/BiFunction;") = true := zlm_q (by decide +kernel)
theorem zfo_2 : zlm_w (.initialized "jdk/internal/util/Preconditions") = true := zlm_q (by decide +kernel)
theorem zfo_3 : zfm (.isRef (.static "jdk/internal/util/Preconditions" "SIOOBE_FORMATTER" "Ljava/util/function/BiFunction;")) = true := by decide +kernel
theorem zne_1 : znests.all (fun q => zlm_w (.methodLinkNest q.1 q.2.1 q.2.2 "LentTools")) = true := all_q (fun _ => zlm_q) (by decide +kernel)
theorem zsr_1 : (List.range 6).all (fun i => zlm_w (.stringRef (zstrs.getD i ("", 0, "", 0)).1 (zstrs.getD i ("", 0, "", 0)).2.1 (zstrs.getD i ("", 0, "", 0)).2.2.1)) = true := all_q (fun _ => zlm_q) (by decide +kernel)
theorem zao_1 : zlm_w (.arrayOver (.object "LentTools$Rule")) = true := zlm_q (by decide +kernel)
theorem zao_2 : zlm_w (.arrayOver (.array .int)) = true := zlm_q (by decide +kernel)
theorem zcl_9 : zlm_w (.castable "[I" "java/lang/Cloneable") = true := zlm_q (by decide +kernel)
theorem zins_1 : zcls.all (fun q => zin (.instantiable q.1 q.2.2)) = true := all_q (fun _ => zinq_in) (by decide +kernel)
theorem zstr_i : ∀ q ∈ zstrs, q.2.2.2 < 6 ∧ q = zstrs.getD q.2.2.2 ("", 0, "", 0) := by decide +kernel
theorem zra {n : Nat} {f : Nat → Bool} (h : (List.range n).all f = true) {i : Nat} (hi : i < n) : f i = true := List.all_eq_true.mp h i (List.mem_range.mpr hi)
def zyL : MethodName := ⟨"LentToolsLaw", "law", "([I)Z"⟩
def zh0 : zHp := (0, fun _ => .inr (0, []))
def zlaw (f1 f L : Nat) (xs : Nat → Int32) : Option zRe := zrun zts (some (L, xs)) (zcall zts zms f1 20) 4 ret zcL f (0, [(0, .ref zSC)], []) zh0
