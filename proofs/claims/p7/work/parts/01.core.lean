/-! The interpreter over ids: cells by their numbers, code lists with what each instruction links to. -/
/-- a cell: an array (kind, length, contents) or an object (number of its kind, fields); references are ids -/
abbrev zCl : Type := (Nat × vp_A) ⊕ (Nat × List Value)
/-- how many cells there are, and what each holds -/
abbrev zHp : Type := Nat × (Nat → zCl)
/-- an entry of a code list: the instruction, its length, two numbers and a value -/
abbrev zEn : Type := Instr × Nat × Nat × Nat × Value
/-- place, locals, operands -/
abbrev zFr : Type := Nat × List (Nat × Value) × List Value
abbrev zRe : Type := Option Value × zHp
abbrev zO : Type := Option ((zFr × zHp) ⊕ zRe)
/-- the script, where it may be read -/
abbrev zEv : Type := Option (Nat × (Nat → Int32))
abbrev zCa : Type := Nat → List Value → zHp → Option zRe
/-- ids from here on are no cells of ours: the script, String constants, static arrays -/
abbrev zSC : Nat := 1000
/-- the longest row -/
abbrev zSL : Nat := 3000
def zg {α : Type} : List (Option α) → Nat → Option α
  | [], _ => none
  | a :: _, 0 => a
  | _ :: l, n + 1 => zg l n
def zld : List (Nat × Value) → Nat → Option Value
  | [], _ => none
  | q :: r, i => if q.1 = i then some q.2 else zld r i
def zs1 (l : List (Nat × Value)) (i : Nat) (v : Value) : List (Nat × Value) := (i, v) :: l.filter (fun q => !(q.1 == i) && !(q.1 + 1 == i && q.2.category == 2))
def zs2 (l : List (Nat × Value)) (i : Nat) (v : Value) : List (Nat × Value) := (i, v) :: l.filter (fun q => !(q.1 == i) && (!(q.1 == i + 1) && !(q.1 + 1 == i && q.2.category == 2)))
def zup (h : Nat → zCl) (i : Nat) (c : zCl) : Nat → zCl := fun j => if j = i then c else h j
def zn (pc : Nat) (lv : List (Nat × Value)) (st : List Value) (hp : zHp) : zO := some (.inl ((pc, lv, st), hp))
def zPush (k : Nat) (v : Value) (fr : zFr) (hp : zHp) : zO := zn (fr.1 + k) fr.2.1 (v :: fr.2.2) hp
def zLoadI (k i : Nat) (fr : zFr) (hp : zHp) : zO := match zld fr.2.1 i with
  | some (.int x) => zn (fr.1 + k) fr.2.1 (.int x :: fr.2.2) hp
  | _ => none
def zLoadL (k i : Nat) (fr : zFr) (hp : zHp) : zO := match zld fr.2.1 i with
  | some (.long x) => zn (fr.1 + k) fr.2.1 (.long x :: fr.2.2) hp
  | _ => none
def zLoadA (k i : Nat) (fr : zFr) (hp : zHp) : zO := match zld fr.2.1 i with
  | some (.ref x) => zn (fr.1 + k) fr.2.1 (.ref x :: fr.2.2) hp
  | some .null => zn (fr.1 + k) fr.2.1 (.null :: fr.2.2) hp
  | _ => none
def zStoI (k i nL : Nat) (fr : zFr) (hp : zHp) : zO := match fr.2.2 with
  | .int x :: r => if i < nL then zn (fr.1 + k) (zs1 fr.2.1 i (.int x)) r hp else none
  | _ => none
def zStoL (k i nL : Nat) (fr : zFr) (hp : zHp) : zO := match fr.2.2 with
  | .long x :: r => if i + 1 < nL then zn (fr.1 + k) (zs2 fr.2.1 i (.long x)) r hp else none
  | _ => none
def zStoA (k i nL : Nat) (fr : zFr) (hp : zHp) : zO := match fr.2.2 with
  | .ref x :: r => if i < nL then zn (fr.1 + k) (zs1 fr.2.1 i (.ref x)) r hp else none
  | .null :: r => if i < nL then zn (fr.1 + k) (zs1 fr.2.1 i .null) r hp else none
  | _ => none
def zInc (i : Nat) (n : Int) (nL : Nat) (fr : zFr) (hp : zHp) : zO := match zld fr.2.1 i with
  | some (.int x) => if i < nL then zn (fr.1 + 3) (zs1 fr.2.1 i (.int (x + Int32.ofInt n))) fr.2.2 hp else none
  | _ => none
def zBin (f : Int32 → Int32 → Int32) (fr : zFr) (hp : zHp) : zO := match fr.2.2 with
  | .int y :: .int x :: r => zn (fr.1 + 1) fr.2.1 (.int (f x y) :: r) hp
  | _ => none
def zBinD (f : Int32 → Int32 → Int32) (fr : zFr) (hp : zHp) : zO := match fr.2.2 with
  | .int y :: .int x :: r => if y = 0 then none else zn (fr.1 + 1) fr.2.1 (.int (f x y) :: r) hp
  | _ => none
def zBnl (f : Int64 → Int64 → Int64) (fr : zFr) (hp : zHp) : zO := match fr.2.2 with
  | .long y :: .long x :: r => zn (fr.1 + 1) fr.2.1 (.long (f x y) :: r) hp
  | _ => none
def zBnlD (f : Int64 → Int64 → Int64) (fr : zFr) (hp : zHp) : zO := match fr.2.2 with
  | .long y :: .long x :: r => if y = 0 then none else zn (fr.1 + 1) fr.2.1 (.long (f x y) :: r) hp
  | _ => none
def zLshl (fr : zFr) (hp : zHp) : zO := match fr.2.2 with
  | .int y :: .long x :: r => zn (fr.1 + 1) fr.2.1 (.long (x <<< (y.toInt64 &&& 63)) :: r) hp
  | _ => none
def zLcmp (fr : zFr) (hp : zHp) : zO := match fr.2.2 with
  | .long y :: .long x :: r => zn (fr.1 + 1) fr.2.1 (.int (lg_cmp x y) :: r) hp
  | _ => none
def zUn (f : Int32 → Value) (fr : zFr) (hp : zHp) : zO := match fr.2.2 with
  | .int x :: r => zn (fr.1 + 1) fr.2.1 (f x :: r) hp
  | _ => none
def zUnl (f : Int64 → Value) (fr : zFr) (hp : zHp) : zO := match fr.2.2 with
  | .long x :: r => zn (fr.1 + 1) fr.2.1 (f x :: r) hp
  | _ => none
def zDup (fr : zFr) (hp : zHp) : zO := match fr.2.2 with
  | v :: r => if v.category = 1 then zn (fr.1 + 1) fr.2.1 (v :: v :: r) hp else none
  | _ => none
def zDup2 (fr : zFr) (hp : zHp) : zO := match fr.2.2 with
  | v :: u :: r => if v.category = 1 ∧ u.category = 1 then zn (fr.1 + 1) fr.2.1 (v :: u :: v :: u :: r) hp else none
  | _ => none
def zPop (fr : zFr) (hp : zHp) : zO := match fr.2.2 with
  | v :: r => if v.category = 1 then zn (fr.1 + 1) fr.2.1 r hp else none
  | _ => none
def zcmp (c : _root_.Jvm.ClassFile.Cond) (x y : Int32) : Bool := match c with
  | .eq => decide (x = y)
  | .ne => decide (¬ x = y)
  | .lt => decide (x < y)
  | .ge => decide (y ≤ x)
  | .gt => decide (y < x)
  | .le => decide (x ≤ y)
def zIf (c : _root_.Jvm.ClassFile.Cond) (a : Nat) (fr : zFr) (hp : zHp) : zO := match fr.2.2 with
  | .int x :: r => zn (if zcmp c x 0 = true then a else fr.1 + 3) fr.2.1 r hp
  | _ => none
def zIfc (c : _root_.Jvm.ClassFile.Cond) (a : Nat) (fr : zFr) (hp : zHp) : zO := match fr.2.2 with
  | .int y :: .int x :: r => zn (if zcmp c x y = true then a else fr.1 + 3) fr.2.1 r hp
  | _ => none
def zNul (a : Nat) (fr : zFr) (hp : zHp) : zO := match fr.2.2 with
  | .ref _ :: r => zn (fr.1 + 3) fr.2.1 r hp
  | .null :: r => zn a fr.2.1 r hp
  | _ => none
def zNnl (a : Nat) (fr : zFr) (hp : zHp) : zO := match fr.2.2 with
  | .ref _ :: r => zn a fr.2.1 r hp
  | .null :: r => zn (fr.1 + 3) fr.2.1 r hp
  | _ => none
def zJmp (off : Int) (lv : List (Nat × Value)) (r : List Value) (pc : Nat) (hp : zHp) : zO :=
  if (pc : Int) + off = (((pc : Int) + off).toNat : Int) then zn ((pc : Int) + off).toNat lv r hp else none
def zTab (dflt lo hi : Int) (offs : Array Int) (fr : zFr) (hp : zHp) : zO := match fr.2.2 with
  | .int x :: r => if x.toInt < lo ∨ hi < x.toInt then zJmp dflt fr.2.1 r fr.1 hp else
    match offs[(x.toInt - lo).toNat]? with
    | some off => zJmp off fr.2.1 r fr.1 hp
    | none => none
  | _ => none
def zLkp (dflt : Int) (ps : Array (Int × Int)) (fr : zFr) (hp : zHp) : zO := match fr.2.2 with
  | .int x :: r => if (ps.toList.zip (ps.toList.drop 1)).all (fun (a, next) => a.1 < next.1) = true then zJmp (Op.lookupswitch.offset ps.toList dflt x.toInt) fr.2.1 r fr.1 hp else none
  | _ => none
/-- fields; kind 100: a String constant's value (0) and coder (1) -/
def zGetf (a b : Nat) (fr : zFr) (hp : zHp) : zO := match fr.2.2 with
  | .ref i :: r =>
    if a = 100 then
      if zSC + 1 ≤ i ∧ i < zSC + 7 then
        if b = 0 then zn (fr.1 + 3) fr.2.1 (.ref (i + 19) :: r) hp else zn (fr.1 + 3) fr.2.1 (.int 0 :: r) hp
      else none
    else if i < hp.1 ∧ i < zSC then
      match hp.2 i with
      | .inr (ci, fs) => if ci = a then
          match fs[b]? with
          | some v => zn (fr.1 + 3) fr.2.1 (v :: r) hp
          | none => none
        else none
      | .inl _ => none
    else none
  | _ => none
/-- does a value go into a field of this type -/
def zfit (ty : FieldType) (v : Value) : Bool := match ty, v with
  | .int, .int _ => true
  | .long, .long _ => true
  | .object _, .ref _ => true
  | .object _, .null => true
  | .array _, .ref _ => true
  | .array _, .null => true
  | _, _ => false
def zPutf (ty : FieldType) (a b : Nat) (fr : zFr) (hp : zHp) : zO := match fr.2.2 with
  | v :: .ref i :: r =>
    if i < hp.1 ∧ i < zSC ∧ zfit ty v = true then
      match hp.2 i with
      | .inr (ci, fs) => if ci = a ∧ b < fs.length then zn (fr.1 + 3) fr.2.1 r (hp.1, zup hp.2 i (.inr (a, fs.set b v))) else none
      | .inl _ => none
    else none
  | _ => none
def zNew (a : Nat) (fs : List Value) (fr : zFr) (hp : zHp) : zO :=
  if hp.1 < zSC then zn (fr.1 + 3) fr.2.1 (.ref hp.1 :: fr.2.2) (hp.1 + 1, zup hp.2 hp.1 (.inr (a, fs))) else none
def zNewa (ty : ArrayType) (fr : zFr) (hp : zHp) : zO := match fr.2.2 with
  | .int n :: r => if ¬ n < 0 ∧ n.toNatClampNeg ≤ zSL ∧ hp.1 < zSC then
      match ty with
      | .int => zn (fr.1 + 2) fr.2.1 (.ref hp.1 :: r) (hp.1 + 1, zup hp.2 hp.1 (.inl (0, n.toNatClampNeg, .inl (fun _ => 0))))
      | .byte => zn (fr.1 + 2) fr.2.1 (.ref hp.1 :: r) (hp.1 + 1, zup hp.2 hp.1 (.inl (1, n.toNatClampNeg, .inl (fun _ => 0))))
      | .boolean => zn (fr.1 + 2) fr.2.1 (.ref hp.1 :: r) (hp.1 + 1, zup hp.2 hp.1 (.inl (2, n.toNatClampNeg, .inl (fun _ => 0))))
      | .long => zn (fr.1 + 2) fr.2.1 (.ref hp.1 :: r) (hp.1 + 1, zup hp.2 hp.1 (.inl (3, n.toNatClampNeg, .inr (.inl (fun _ => 0)))))
      | _ => none
    else none
  | _ => none
def zAnew (fr : zFr) (hp : zHp) : zO := match fr.2.2 with
  | .int n :: r => if ¬ n < 0 ∧ n.toNatClampNeg ≤ zSL ∧ hp.1 < zSC then
      zn (fr.1 + 3) fr.2.1 (.ref hp.1 :: r) (hp.1 + 1, zup hp.2 hp.1 (.inl (4, n.toNatClampNeg, .inr (.inr (.inr (.inr (fun _ => none)))))))
    else none
  | _ => none
/-- new int[n][k]: the outer row, then its n rows -/
def zMna (fr : zFr) (hp : zHp) : zO := match fr.2.2 with
  | .int k :: .int n :: r => if ¬ n < 0 ∧ ¬ k < 0 ∧ n.toNatClampNeg ≤ zSL ∧ k.toNatClampNeg ≤ zSL ∧ hp.1 + 1 + n.toNatClampNeg ≤ zSC then
      zn (fr.1 + 4) fr.2.1 (.ref hp.1 :: r) (hp.1 + 1 + n.toNatClampNeg, fun j => if j < hp.1 then hp.2 j else if j = hp.1 then .inl (5, n.toNatClampNeg, .inr (.inr (.inr (.inr (fun i => if i < n.toNatClampNeg then some (hp.1 + 1 + i) else none))))) else .inl (0, k.toNatClampNeg, .inl (fun _ => 0)))
    else none
  | _ => none
/-- what the rows outside hold: kind (0 int, 1 byte), length, contents -/
abbrev zTb : Type := zEv → Nat → Option (Nat × Nat × (Nat → Int32))
def zAlen (tb : zTb) (ev : zEv) (fr : zFr) (hp : zHp) : zO := match fr.2.2 with
  | .ref i :: r =>
    if i < zSC then
      if i < hp.1 then
        match hp.2 i with
        | .inl (t, x) => if t < 6 then zn (fr.1 + 1) fr.2.1 (.int (Int32.ofNat x.1) :: r) hp else none
        | .inr _ => none
      else none
    else match tb ev (i - zSC) with
      | some (_, n, _) => zn (fr.1 + 1) fr.2.1 (.int (Int32.ofNat n) :: r) hp
      | none => none
  | _ => none
def zIald (tb : zTb) (ev : zEv) (fr : zFr) (hp : zHp) : zO := match fr.2.2 with
  | .int j :: .ref i :: r =>
    if i < zSC then
      if i < hp.1 then
        match hp.2 i with
        | .inl (0, n, .inl f) => if ¬ (j < 0 ∨ n ≤ j.toNatClampNeg) then zn (fr.1 + 1) fr.2.1 (.int (f j.toNatClampNeg) :: r) hp else none
        | _ => none
      else none
    else match tb ev (i - zSC) with
      | some (0, n, f) => if ¬ (j < 0 ∨ n ≤ j.toNatClampNeg) then zn (fr.1 + 1) fr.2.1 (.int (f j.toNatClampNeg) :: r) hp else none
      | _ => none
  | _ => none
def zBald (tb : zTb) (ev : zEv) (fr : zFr) (hp : zHp) : zO := match fr.2.2 with
  | .int j :: .ref i :: r =>
    if i < zSC then
      if i < hp.1 then
        match hp.2 i with
        | .inl (1, n, .inl f) => if ¬ (j < 0 ∨ n ≤ j.toNatClampNeg) then zn (fr.1 + 1) fr.2.1 (.int (f j.toNatClampNeg) :: r) hp else none
        | .inl (2, n, .inl f) => if ¬ (j < 0 ∨ n ≤ j.toNatClampNeg) then zn (fr.1 + 1) fr.2.1 (.int (f j.toNatClampNeg) :: r) hp else none
        | _ => none
      else none
    else match tb ev (i - zSC) with
      | some (1, n, f) => if ¬ (j < 0 ∨ n ≤ j.toNatClampNeg) then zn (fr.1 + 1) fr.2.1 (.int (f j.toNatClampNeg) :: r) hp else none
      | _ => none
  | _ => none
def zLald (fr : zFr) (hp : zHp) : zO := match fr.2.2 with
  | .int j :: .ref i :: r =>
    if i < hp.1 ∧ i < zSC then
      match hp.2 i with
      | .inl (3, n, .inr (.inl f)) => if ¬ (j < 0 ∨ n ≤ j.toNatClampNeg) then zn (fr.1 + 1) fr.2.1 (.long (f j.toNatClampNeg) :: r) hp else none
      | _ => none
    else none
  | _ => none
def zAald (fr : zFr) (hp : zHp) : zO := match fr.2.2 with
  | .int j :: .ref i :: r =>
    if i < hp.1 ∧ i < zSC then
      match hp.2 i with
      | .inl (4, n, .inr (.inr (.inr (.inr f)))) => if ¬ (j < 0 ∨ n ≤ j.toNatClampNeg) then zn (fr.1 + 1) fr.2.1 (va_rf (f j.toNatClampNeg) :: r) hp else none
      | .inl (5, n, .inr (.inr (.inr (.inr f)))) => if ¬ (j < 0 ∨ n ≤ j.toNatClampNeg) then zn (fr.1 + 1) fr.2.1 (va_rf (f j.toNatClampNeg) :: r) hp else none
      | _ => none
    else none
  | _ => none
def zIast (fr : zFr) (hp : zHp) : zO := match fr.2.2 with
  | .int x :: .int j :: .ref i :: r =>
    if i < hp.1 ∧ i < zSC then
      match hp.2 i with
      | .inl (0, n, .inl f) => if ¬ (j < 0 ∨ n ≤ j.toNatClampNeg) then zn (fr.1 + 1) fr.2.1 r (hp.1, zup hp.2 i (.inl (0, n, .inl (upd f j.toNatClampNeg x)))) else none
      | _ => none
    else none
  | _ => none
def zBast (fr : zFr) (hp : zHp) : zO := match fr.2.2 with
  | .int x :: .int j :: .ref i :: r =>
    if i < hp.1 ∧ i < zSC then
      match hp.2 i with
      | .inl (1, n, .inl f) => if ¬ (j < 0 ∨ n ≤ j.toNatClampNeg) then zn (fr.1 + 1) fr.2.1 r (hp.1, zup hp.2 i (.inl (1, n, .inl (upd f j.toNatClampNeg (vp_nar .byte x))))) else none
      | .inl (2, n, .inl f) => if ¬ (j < 0 ∨ n ≤ j.toNatClampNeg) then zn (fr.1 + 1) fr.2.1 r (hp.1, zup hp.2 i (.inl (2, n, .inl (upd f j.toNatClampNeg (vp_nar .boolean x))))) else none
      | _ => none
    else none
  | _ => none
def zLast (fr : zFr) (hp : zHp) : zO := match fr.2.2 with
  | .long x :: .int j :: .ref i :: r =>
    if i < hp.1 ∧ i < zSC then
      match hp.2 i with
      | .inl (3, n, .inr (.inl f)) => if ¬ (j < 0 ∨ n ≤ j.toNatClampNeg) then zn (fr.1 + 1) fr.2.1 r (hp.1, zup hp.2 i (.inl (3, n, .inr (.inl (vp_updL f j.toNatClampNeg x))))) else none
      | _ => none
    else none
  | _ => none
/-- a Rule into the row of rules (kind 4 of objects) -/
def zAast (fr : zFr) (hp : zHp) : zO := match fr.2.2 with
  | .ref v :: .int j :: .ref i :: r =>
    if i < hp.1 ∧ i < zSC ∧ v < hp.1 ∧ v < zSC then
      match hp.2 i, hp.2 v with
      | .inl (4, n, .inr (.inr (.inr (.inr f)))), .inr (4, _) => if ¬ (j < 0 ∨ n ≤ j.toNatClampNeg) then zn (fr.1 + 1) fr.2.1 r (hp.1, zup hp.2 i (.inl (4, n, .inr (.inr (.inr (.inr (va_up f j.toNatClampNeg (some v)))))))) else none
      | _, _ => none
    else none
  | _ => none
def zCpy (fr : zFr) (hp : zHp) : zO := match fr.2.2 with
  | .int n :: .int dp :: .ref d :: .int sp :: .ref s :: r =>
    if s < hp.1 ∧ s < zSC ∧ d < hp.1 ∧ d < zSC ∧ s ≠ d ∧ ¬ sp < 0 ∧ ¬ dp < 0 ∧ ¬ n < 0 then
      match hp.2 s, hp.2 d with
      | .inl (0, n0, .inl f), .inl (0, n1, .inl g) => if sp.toNatClampNeg + n.toNatClampNeg ≤ n0 ∧ dp.toNatClampNeg + n.toNatClampNeg ≤ n1 ∧ (r.map fun v => v.category).sum ≤ 8 then
          zn (fr.1 + 3) fr.2.1 r (hp.1, zup hp.2 d (.inl (0, n1, .inl (va_cpy f g sp.toNatClampNeg dp.toNatClampNeg n.toNatClampNeg)))) else none
      | _, _ => none
    else none
  | _ => none
/-- a row of ints, cloned -/
def zCln (fr : zFr) (hp : zHp) : zO := match fr.2.2 with
  | .ref i :: r =>
    if i < hp.1 ∧ i < zSC ∧ hp.1 < zSC ∧ (r.map fun v => v.category).sum ≤ 8 then
      match hp.2 i with
      | .inl (0, n, .inl f) => if n ≤ zSL then zn (fr.1 + 3) fr.2.1 (.ref hp.1 :: r) (hp.1 + 1, zup hp.2 hp.1 (.inl (0, n, .inl f))) else none
      | _ => none
    else none
  | _ => none
/-- a row of ints is one -/
def zCst (fr : zFr) (hp : zHp) : zO := match fr.2.2 with
  | .ref i :: r =>
    if i < hp.1 ∧ i < zSC then
      match hp.2 i with
      | .inl (0, _, .inl _) => zn (fr.1 + 3) fr.2.1 (.ref i :: r) hp
      | _ => none
    else none
  | _ => none
def zMax (fr : zFr) (hp : zHp) : zO := match fr.2.2 with
  | .int y :: .int x :: r => if (r.map fun v => v.category).sum ≤ 8 then zn (fr.1 + 3) fr.2.1 (.int (if x < y then y else x) :: r) hp else none
  | _ => none
def zMin (fr : zFr) (hp : zHp) : zO := match fr.2.2 with
  | .int y :: .int x :: r => if (r.map fun v => v.category).sum ≤ 8 then zn (fr.1 + 3) fr.2.1 (.int (if y < x then y else x) :: r) hp else none
  | _ => none
/-- back from a call -/
def zBk (x : Option zRe) (pc : Nat) (lv : List (Nat × Value)) (rest : List Value) : zO := match x with
  | some (r, hp') => zn (pc + 3) lv (r.toList ++ rest) hp'
  | none => none
/-- the kind of object that an id is: its number, 100 for a String constant -/
def zKd (i : Nat) (hp : zHp) : Option Nat :=
  if i < zSC then (if i < hp.1 then match hp.2 i with
    | .inr (ci, _) => some ci
    | .inl _ => none
  else none) else if zSC + 1 ≤ i ∧ i < zSC + 7 then some 100 else none
def zCall (call : zCa) (k n ci : Nat) (fr : zFr) (hp : zHp) : zO := match fr.2.2.drop n with
  | .ref i :: rest => if (fr.2.2.take n).length = n ∧ zKd i hp = some ci ∧ (rest.map fun v => v.category).sum ≤ 8 then zBk (call k (.ref i :: (fr.2.2.take n).reverse) hp) fr.1 fr.2.1 rest else none
  | _ => none
def zCalS (call : zCa) (k n : Nat) (fr : zFr) (hp : zHp) : zO :=
  if (fr.2.2.take n).length = n ∧ ((fr.2.2.drop n).map fun v => v.category).sum ≤ 8 then zBk (call k (fr.2.2.take n).reverse hp) fr.1 fr.2.1 (fr.2.2.drop n) else none
def zCalI (call : zCa) (k n : Nat) (fr : zFr) (hp : zHp) : zO := match fr.2.2.drop n with
  | .ref i :: rest => if (fr.2.2.take n).length = n ∧ i < zSC ∧ (rest.map fun v => v.category).sum ≤ 8 then zBk (call k (.ref i :: (fr.2.2.take n).reverse) hp) fr.1 fr.2.1 rest else none
  | _ => none
def zObj (fr : zFr) (hp : zHp) : zO := match fr.2.2 with
  | .ref _ :: r => if (r.map fun v => v.category).sum ≤ 8 then zn (fr.1 + 3) fr.2.1 r hp else none
  | _ => none
def zIret (rt : Option FieldType) (fr : zFr) (hp : zHp) : zO := match fr.2.2, rt with
  | [.int x], some ty => if narrow ty (.int x) = .int x then some (.inr (some (.int x), hp)) else none
  | _, _ => none
def zLret (rt : Option FieldType) (fr : zFr) (hp : zHp) : zO := match fr.2.2, rt with
  | [.long x], some .long => some (.inr (some (.long x), hp))
  | _, _ => none
def zAret (rt : Option FieldType) (fr : zFr) (hp : zHp) : zO := match fr.2.2, rt with
  | [.ref x], some (.object _) => some (.inr (some (.ref x), hp))
  | [.ref x], some (.array _) => some (.inr (some (.ref x), hp))
  | [.null], some (.object _) => some (.inr (some .null, hp))
  | [.null], some (.array _) => some (.inr (some .null, hp))
  | _, _ => none
def zVret (rt : Option FieldType) (fr : zFr) (hp : zHp) : zO := match fr.2.2, rt with
  | [], none => some (.inr (none, hp))
  | _, _ => none
/-- what the tables beside the code say: of a kind of object and a field its type; of a kind its fields at birth; of a method how many arguments, and the kind of its receiver -/
abbrev zTs : Type := (Nat → Nat → FieldType) × (Nat → List Value) × (Nat → Nat × Nat) × zTb
def zdo (ts : zTs) (ev : zEv) (call : zCa) (nL : Nat) (rt : Option FieldType) (q : zEn) (fr : zFr) (hp : zHp) : zO := match q.1 with
  | .iconst n => zPush 1 (.int (Int32.ofInt n)) fr hp
  | .bipush n => zPush 2 (.int (Int8.ofInt n).toInt32) fr hp
  | .sipush n => zPush 3 (.int (Int16.ofInt n).toInt32) fr hp
  | .lconst n => zPush 1 (.long (Int64.ofNat (n : Nat))) fr hp
  | .aconst_null => zPush 1 .null fr hp
  | .ldc _ => zPush 2 q.2.2.2.2 fr hp
  | .ldc_w _ => zPush 3 q.2.2.2.2 fr hp
  | .ldc2_w _ => zPush 3 q.2.2.2.2 fr hp
  | .getstatic _ => zPush 3 q.2.2.2.2 fr hp
  | .iload_n k => zLoadI 1 k fr hp
  | .iload i => zLoadI 2 i fr hp
  | .lload_n k => zLoadL 1 k fr hp
  | .lload i => zLoadL 2 i fr hp
  | .aload_n k => zLoadA 1 k fr hp
  | .aload i => zLoadA 2 i fr hp
  | .istore_n k => zStoI 1 k nL fr hp
  | .istore i => zStoI 2 i nL fr hp
  | .lstore_n k => zStoL 1 k nL fr hp
  | .lstore i => zStoL 2 i nL fr hp
  | .astore_n k => zStoA 1 k nL fr hp
  | .astore i => zStoA 2 i nL fr hp
  | .iinc i n => zInc i n nL fr hp
  | .iadd => zBin (fun x y => x + y) fr hp
  | .isub => zBin (fun x y => x - y) fr hp
  | .imul => zBin (fun x y => x * y) fr hp
  | .iand => zBin (fun x y => x &&& y) fr hp
  | .ior => zBin (fun x y => x ||| y) fr hp
  | .ixor => zBin (fun x y => x ^^^ y) fr hp
  | .ishl => zBin (fun x y => x <<< (y &&& 31)) fr hp
  | .ishr => zBin (fun x y => x >>> (y &&& 31)) fr hp
  | .iushr => zBin (fun x y => (x.toUInt32 >>> (y.toUInt32 &&& Int32.toUInt32 31)).toInt32) fr hp
  | .idiv => zBinD (fun x y => x / y) fr hp
  | .irem => zBinD (fun x y => x - x / y * y) fr hp
  | .ladd => zBnl (fun x y => x + y) fr hp
  | .lsub => zBnl (fun x y => x - y) fr hp
  | .lmul => zBnl (fun x y => x * y) fr hp
  | .land => zBnl (fun x y => x &&& y) fr hp
  | .lor => zBnl (fun x y => x ||| y) fr hp
  | .ldiv => zBnlD (fun x y => x / y) fr hp
  | .lrem => zBnlD (fun x y => x - x / y * y) fr hp
  | .lshl => zLshl fr hp
  | .lcmp => zLcmp fr hp
  | .i2l => zUn (fun x => .long x.toInt64) fr hp
  | .i2b => zUn (fun x => .int x.toInt8.toInt32) fr hp
  | .i2c => zUn (fun x => .int (x.toUInt32 % 65536).toInt32) fr hp
  | .l2i => zUnl (fun x => .int x.toInt32) fr hp
  | .dup => zDup fr hp
  | .dup2 => zDup2 fr hp
  | .pop => zPop fr hp
  | .ifCond c _ => zIf c q.2.2.1 fr hp
  | .if_icmp c _ => zIfc c q.2.2.1 fr hp
  | .goto _ => zn q.2.2.1 fr.2.1 fr.2.2 hp
  | .ifnull _ => zNul q.2.2.1 fr hp
  | .ifnonnull _ => zNnl q.2.2.1 fr hp
  | .tableswitch d lo hi offs => zTab d lo hi offs fr hp
  | .lookupswitch d ps => zLkp d ps fr hp
  | .getfield _ => zGetf q.2.2.1 q.2.2.2.1 fr hp
  | .putfield _ => zPutf (ts.1 q.2.2.1 q.2.2.2.1) q.2.2.1 q.2.2.2.1 fr hp
  | .new _ => zNew q.2.2.1 (ts.2.1 q.2.2.1) fr hp
  | .newarray ty => zNewa ty fr hp
  | .anewarray _ => zAnew fr hp
  | .multianewarray _ _ => zMna fr hp
  | .arraylength => zAlen ts.2.2.2 ev fr hp
  | .iaload => zIald ts.2.2.2 ev fr hp
  | .baload => zBald ts.2.2.2 ev fr hp
  | .laload => zLald fr hp
  | .aaload => zAald fr hp
  | .iastore => zIast fr hp
  | .bastore => zBast fr hp
  | .lastore => zLast fr hp
  | .aastore => zAast fr hp
  | .invokevirtual _ => if q.2.2.2.1 = 9 then zCln fr hp else zCall call q.2.2.1 (ts.2.2.1 q.2.2.1).1 (ts.2.2.1 q.2.2.1).2 fr hp
  | .checkcast _ => zCst fr hp
  | .invokespecial _ => if q.2.2.2.1 = 0 then zObj fr hp else zCalI call q.2.2.1 (ts.2.2.1 q.2.2.1).1 fr hp
  | .invokestatic _ => if q.2.2.2.1 = 0 then zCpy fr hp else if q.2.2.2.1 = 2 then zMax fr hp else if q.2.2.2.1 = 3 then zMin fr hp else zCalS call q.2.2.1 (ts.2.2.1 q.2.2.1).1 fr hp
  | .ireturn => zIret rt fr hp
  | .lreturn => zLret rt fr hp
  | .areturn => zAret rt fr hp
  | .return_ => zVret rt fr hp
  | _ => none
def zisR : Instr → Bool
  | .ireturn => true
  | .lreturn => true
  | .areturn => true
  | .return_ => true
  | _ => false
/-- a method's body from a place on; the number of cells never falls -/
def zrun (ts : zTs) (ev : zEv) (call : zCa) (nL : Nat) (rt : Option FieldType) (cd : List (Option zEn)) : Nat → zFr → zHp → Option zRe
  | 0, _, _ => none
  | f + 1, fr, hp => match zg cd fr.1 with
    | none => none
    | some q => match zdo ts ev call nL rt q fr hp with
      | none => none
      | some (.inl (fr', hp')) => if hp.1 ≤ hp'.1 then zrun ts ev call nL rt cd f fr' hp' else none
      | some (.inr r) => if zisR q.1 = true then some r else none
/-- method k of the list of methods (most locals, what it returns, code), called with args; d: how deep calls may go, f: how many steps in one body -/
abbrev zMs : Type := List (Option (Nat × Option FieldType × List (Option zEn)))
def zcall (ts : zTs) (ms : zMs) (f : Nat) : Nat → zCa
  | 0 => fun _ _ _ => none
  | d + 1 => fun k as hp => match zg ms k with
    | none => none
    | some md => if (lg_sl as).length ≤ md.1 ∧ md.1 ≤ 41 then (match zrun ts none (zcall ts ms f d) md.1 md.2.1 md.2.2 f (0, lv_args 0 as, []) hp with
      | some r => if hp.1 ≤ r.2.1 then some r else none
      | none => none) else none
