/-! what the tables must say of each entry; printed by gen.py from the second half on -/
def zTw : List Cond := lw_tbl.filter goodWord
def zin (w : Cond) : Bool := decide (w ∈ lw_tbl) && goodWord w
def zstrs : List (String × Nat × String × Nat) := [("LentTools$VillageReader", 25, "village tool trust work thanks ", 0), ("LentTools$RuleReader", 70, "lend ", 1), ("LentTools$RuleReader", 93, "not ", 2), ("LentTools$RuleReader", 117, "tool kind owner holder to lent sharp out day need pay owes trusts ", 3), ("LentTools$RuleReader", 139, "if ", 4), ("LentTools$RuleReader", 150, "and or ", 5)]
def znests : List (String × Nat × MethodName) := [("LentTools", 15, ⟨"LentTools$Text", "<init>", "()V"⟩), ("LentTools", 22, ⟨"LentTools$VillageReader", "<init>", "()V"⟩), ("LentTools", 29, ⟨"LentTools$RuleReader", "<init>", "()V"⟩), ("LentTools", 36, ⟨"LentTools$Village", "<init>", "()V"⟩), ("LentTools", 52, ⟨"LentTools$History", "<init>", "()V"⟩), ("LentTools", 71, ⟨"LentTools$Draws", "<init>", "()V"⟩), ("LentTools", 78, ⟨"LentTools$Chains", "<init>", "()V"⟩), ("LentTools", 85, ⟨"LentTools$Matching", "<init>", "()V"⟩), ("LentTools$Matching", 13, ⟨"LentTools$Chains", "<init>", "()V"⟩), ("LentTools", 92, ⟨"LentTools$ThanksRings", "<init>", "()V"⟩)]
def zlen : Instr → Nat
  | .tableswitch _ _ _ _ | .lookupswitch _ _ => 0
  | .bipush _ | .ldc _ | .iload _ | .lload _ | .aload _ | .istore _ | .lstore _ | .astore _ | .newarray _ => 2
  | .sipush _ | .ldc_w _ | .ldc2_w _ | .getstatic _ | .iinc _ _ | .ifCond _ _ | .if_icmp _ _ | .goto _ | .ifnull _ | .ifnonnull _ | .getfield _ | .putfield _ | .new _ | .anewarray _ | .invokevirtual _ | .invokespecial _ | .invokestatic _ | .checkcast _ => 3
  | .multianewarray _ _ => 4
  | _ => 1
def zok_f (y : MethodName) (i a b : Nat) : Bool := match zcls[a]? with
  | some c => decide (b < c.2.2) && zin (.fieldLink y.cls i (c.2.1 b).1 (c.2.1 b).2.1 (c.2.1 b).2.2.1)
  | none => false
def zok_p (y : MethodName) (a b : Nat) : Bool := match zcls[a]? with
  | some c => !(c.2.1 b).2.2.2 || (decide ((c.2.1 b).1 = y.cls) && decide (y.name = "<init>"))
  | none => false
def zok_n (y : MethodName) (i a : Nat) : Bool := match zcls[a]? with
  | some c => zin (.classLink y.cls i c.1) && zin (.instantiable c.1 c.2.2) && zin (.initialized c.1)
  | none => false
def zok_v (y : MethodName) (i a : Nat) : Bool := match zg zml a with
  | some mi => zin (.methodLink y.cls i mi.1) && decide (mi.2.2.2.2.2 < 200) && !decide (mi.1.name = "<init>")
  | none => false
def zok_s (y : MethodName) (i a : Nat) : Bool := match zg zml a with
  | some mi => zin (.methodLink y.cls i mi.1) && decide (mi.2.2.2.2.2 = 200)
  | none => false
def zok_i (y : MethodName) (i a b : Nat) : Bool := match zg zml a with
  | some mi => (if b = 1 then zin (.methodLink y.cls i mi.1) else decide ((y.cls, i, mi.1) ∈ znests)) && decide (mi.2.2.2.2.2 < 200) && decide (mi.1.name = "<init>")
  | none => false
def zok_c (y : MethodName) (i : Nat) (v : Value) : Bool := match v with
  | .int x => zin (.constant y.cls i x)
  | .ref z => zstrs.any (fun t => decide (t.1 = y.cls) && decide (t.2.1 = i) && decide (z = zSC + 1 + t.2.2.2))
  | _ => false
def zok_k (y : MethodName) (i : Nat) (v : Value) : Bool := match v with
  | .int x => zin (.constant y.cls i x)
  | _ => false
def zok_l (y : MethodName) (i : Nat) (v : Value) : Bool := match v with
  | .long x => zin (.constantLong y.cls i x)
  | _ => false
/-- the statics: 0 COMPACT_STRINGS, 1 to 3 the rows of VillageReader, 4 the formatter -/
def zsta (a : Nat) : String × String × String × Value := match a with
  | 0 => ("java/lang/String", "COMPACT_STRINGS", "Z", .int 1)
  | 1 => ("LentTools$VillageReader", "STARTS", "[I", .ref 1030)
  | 2 => ("LentTools$VillageReader", "LEAST", "[I", .ref 1031)
  | 3 => ("LentTools$VillageReader", "GREATEST", "[I", .ref 1032)
  | _ => ("jdk/internal/util/Preconditions", "SIOOBE_FORMATTER", "Ljava/util/function/BiFunction;", .retAddr 0)
def zok_t (y : MethodName) (i a : Nat) (v : Value) : Bool := zin (.fieldLink y.cls i (zsta a).1 (zsta a).2.1 (zsta a).2.2.1) && decide (v = (zsta a).2.2.2)
def zokI (y : MethodName) (pc : Nat) (q : zEn) : Bool := match q.1 with
  | .getfield i => if q.2.2.1 = 100 then (if q.2.2.2.1 = 0 then zin (.fieldLink y.cls i "java/lang/String" "value" "[B") else zin (.fieldLink y.cls i "java/lang/String" "coder" "B")) else zok_f y i q.2.2.1 q.2.2.2.1
  | .putfield i => zok_f y i q.2.2.1 q.2.2.2.1 && zok_p y q.2.2.1 q.2.2.2.1
  | .new i => zok_n y i q.2.2.1
  | .ifCond _ off => decide ((pc : Int) + off = (q.2.2.1 : Int))
  | .if_icmp _ off => decide ((pc : Int) + off = (q.2.2.1 : Int))
  | .goto off => decide ((pc : Int) + off = (q.2.2.1 : Int))
  | .ifnull off => decide ((pc : Int) + off = (q.2.2.1 : Int))
  | .ifnonnull off => decide ((pc : Int) + off = (q.2.2.1 : Int))
  | .anewarray i => zin (.classLink y.cls i "LentTools$Rule")
  | .multianewarray i n => zin (.classLink y.cls i "[[I") && decide (n = 2)
  | .invokevirtual i => if q.2.2.2.1 = 9 then zin (.methodLink y.cls i ⟨"[I", "clone", "()Ljava/lang/Object;"⟩) else zok_v y i q.2.2.1
  | .checkcast i => zin (.classLink y.cls i "[I")
  | .invokespecial i => if q.2.2.2.1 = 0 then zin (.methodLink y.cls i objectInit) else zok_i y i q.2.2.1 q.2.2.2.1
  | .invokestatic i => if q.2.2.2.1 = 0 then zin (.methodLink y.cls i arraycopyName) else if q.2.2.2.1 = 2 then zin (.methodLink y.cls i Lib.Math.max.name) else if q.2.2.2.1 = 3 then zin (.methodLink y.cls i Lib.Math.min.name) else zok_s y i q.2.2.1
  | .ldc i => zok_c y i q.2.2.2.2
  | .ldc_w i => zok_k y i q.2.2.2.2
  | .ldc2_w i => zok_l y i q.2.2.2.2
  | .getstatic i => zok_t y i q.2.2.1 q.2.2.2.2
  | _ => true
def zokE (y : MethodName) (bs : ByteArray) (pc : Nat) (q : zEn) : Bool := decide (decode bs pc = .ok (q.1, q.2.1)) && ((zlen q.1 == 0 || q.2.1 == zlen q.1) && zokI y pc q)
def zokC (y : MethodName) (bs : ByteArray) : Nat → List (Option zEn) → Bool
  | _, [] => true
  | n, none :: l => zokC y bs (n + 1) l
  | n, some q :: l => zokE y bs n q && zokC y bs (n + 1) l
/-- of a method alone, its code apart -/
def zokY (mi : zMi) : Bool := zin (.initialized mi.1.cls) && (decide (mi.1.cls ≠ "java/lang/invoke/MethodHandle") && decide (mi.1.cls ≠ "java/lang/invoke/VarHandle")) && decide ((parseMethodDescriptor mi.1.desc).map (fun d => d.parameters.length) = some mi.2.2.2.2.1) && plainName mi.1.cls && decide (mi.2.2.1 ≤ 41) &&
  (if mi.2.2.2.2.2 = 200 then zin (.static mi.1) else zin (.instanceMethod mi.1) && ((decide (mi.1.name = "<init>") && decide (mi.2.2.2.1 = none)) || (!decide (mi.1.name = "<init>") && zin (.selects mi.1.cls mi.1 mi.1))) && (if mi.2.2.2.2.2 = 100 then decide (mi.1.cls = "java/lang/String") else decide ((zcls[mi.2.2.2.2.2]?).map (fun c => c.1) = some mi.1.cls)))
theorem zokC_at {y : MethodName} {bs : ByteArray} : ∀ {cd : List (Option zEn)} {n : Nat}, zokC y bs n cd = true → ∀ {k : Nat} {q : zEn}, zg cd k = some q → zokE y bs (n + k) q = true
  | [], _, _, k, q, h => by cases k <;> cases h
  | none :: l, n, h, k, q, hq => by
    cases k with
    | zero => cases hq
    | succ k =>
      have := zokC_at (cd := l) (n := n + 1) h (k := k) hq
      rw [show n + (k + 1) = n + 1 + k by omega]
      exact this
  | some q0 :: l, n, h, k, q, hq => by
    have h2 : zokE y bs n q0 = true ∧ zokC y bs (n + 1) l = true := by
      rw [← Bool.and_eq_true]
      exact h
    cases k with
    | zero => cases hq; exact h2.1
    | succ k =>
      have := zokC_at (cd := l) (n := n + 1) h2.2 (k := k) hq
      rw [show n + (k + 1) = n + 1 + k by omega]
      exact this
theorem zin_mem {w : Cond} (h : zin w = true) : w ∈ zTw := by
  unfold zin at h
  simp only [Bool.and_eq_true, decide_eq_true_eq] at h
  exact List.mem_filter.mpr ⟨h.1, h.2⟩
