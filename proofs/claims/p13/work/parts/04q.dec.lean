/-! The code lists against the bytes: what decode says of them, told by opcode. -/
abbrev zRd (α : Type) : Type := Reader DecodeError α
theorem zu1 {B : ByteArray} {p : Nat} {b : UInt8} (h : B.data.toList[p]? = some b) : (Reader.u1 : zRd Nat) B p = .ok (b.toNat, p + 1) := by
  obtain ⟨hp, e⟩ := List.getElem?_eq_some_iff.mp h
  have hs : p < B.size := by simpa using hp
  have e2 : B[p] = b := e
  show (dite (p < B.size) (fun h => (do set (p + 1); pure (B[p]'h).toNat : zRd Nat)) (fun _ => throw (HasTruncated.truncated p))) B p = _
  rw [dif_pos hs, e2]
  rfl
theorem zbnd {α β : Type} {r : zRd α} {f : α → zRd β} {B : ByteArray} {p s : Nat} {a : α} (h : r B p = .ok (a, s)) : (r >>= f) B p = f a B s := by
  show (do let (a, s) ← r B p; f a B s : Except DecodeError (β × Nat)) = _
  rw [h]
  rfl
theorem zmp {α β : Type} {g : α → β} {r : zRd α} {B : ByteArray} {p s : Nat} {a : α} (h : r B p = .ok (a, s)) : (g <$> r) B p = .ok (g a, s) := by
  show (do let (a, s) ← r B p; .ok (g a, s) : Except DecodeError (β × Nat)) = _
  rw [h]
  rfl
theorem zfin {B : ByteArray} {p n len : Nat} {i : Instr} (h : Decoder.instr p B p = .ok (i, p + n)) (hn : len = n) : decode B p = .ok (i, len) := by
  have e : decode B p = (do let (j, s) ← Decoder.instr p B p; .ok (j, s - p) : Except DecodeError (Instr × Nat)) := rfl
  rw [e, h, hn]
  show Except.ok (i, p + n - p) = _
  rw [Nat.add_sub_cancel_left]
section DQ
variable {B : ByteArray} {p a b : Nat}
theorem zu2 (h1 : (Reader.u1 : zRd Nat) B p = .ok (a, p + 1)) (h2 : (Reader.u1 : zRd Nat) B (p + 1) = .ok (b, p + 2)) : (Reader.u2 : zRd Nat) B p = .ok (a * 256 + b, p + 2) := (zbnd h1).trans ((zbnd h2).trans rfl)
set_option maxRecDepth 16384 in
theorem zd50 (h : (Reader.u1 : zRd Nat) B p = .ok (50, p + 1)) : Decoder.instr p B p = .ok (.aaload, p + 1) := by
  delta Decoder.instr
  exact (zbnd h).trans rfl
set_option maxRecDepth 16384 in
theorem zd83 (h : (Reader.u1 : zRd Nat) B p = .ok (83, p + 1)) : Decoder.instr p B p = .ok (.aastore, p + 1) := by
  delta Decoder.instr
  exact (zbnd h).trans rfl
set_option maxRecDepth 16384 in
theorem zd1 (h : (Reader.u1 : zRd Nat) B p = .ok (1, p + 1)) : Decoder.instr p B p = .ok (.aconst_null, p + 1) := by
  delta Decoder.instr
  exact (zbnd h).trans rfl
set_option maxRecDepth 16384 in
theorem zd176 (h : (Reader.u1 : zRd Nat) B p = .ok (176, p + 1)) : Decoder.instr p B p = .ok (.areturn, p + 1) := by
  delta Decoder.instr
  exact (zbnd h).trans rfl
set_option maxRecDepth 16384 in
theorem zd190 (h : (Reader.u1 : zRd Nat) B p = .ok (190, p + 1)) : Decoder.instr p B p = .ok (.arraylength, p + 1) := by
  delta Decoder.instr
  exact (zbnd h).trans rfl
set_option maxRecDepth 16384 in
theorem zd51 (h : (Reader.u1 : zRd Nat) B p = .ok (51, p + 1)) : Decoder.instr p B p = .ok (.baload, p + 1) := by
  delta Decoder.instr
  exact (zbnd h).trans rfl
set_option maxRecDepth 16384 in
theorem zd84 (h : (Reader.u1 : zRd Nat) B p = .ok (84, p + 1)) : Decoder.instr p B p = .ok (.bastore, p + 1) := by
  delta Decoder.instr
  exact (zbnd h).trans rfl
set_option maxRecDepth 16384 in
theorem zd89 (h : (Reader.u1 : zRd Nat) B p = .ok (89, p + 1)) : Decoder.instr p B p = .ok (.dup, p + 1) := by
  delta Decoder.instr
  exact (zbnd h).trans rfl
set_option maxRecDepth 16384 in
theorem zd92 (h : (Reader.u1 : zRd Nat) B p = .ok (92, p + 1)) : Decoder.instr p B p = .ok (.dup2, p + 1) := by
  delta Decoder.instr
  exact (zbnd h).trans rfl
set_option maxRecDepth 16384 in
theorem zd145 (h : (Reader.u1 : zRd Nat) B p = .ok (145, p + 1)) : Decoder.instr p B p = .ok (.i2b, p + 1) := by
  delta Decoder.instr
  exact (zbnd h).trans rfl
set_option maxRecDepth 16384 in
theorem zd146 (h : (Reader.u1 : zRd Nat) B p = .ok (146, p + 1)) : Decoder.instr p B p = .ok (.i2c, p + 1) := by
  delta Decoder.instr
  exact (zbnd h).trans rfl
set_option maxRecDepth 16384 in
theorem zd133 (h : (Reader.u1 : zRd Nat) B p = .ok (133, p + 1)) : Decoder.instr p B p = .ok (.i2l, p + 1) := by
  delta Decoder.instr
  exact (zbnd h).trans rfl
set_option maxRecDepth 16384 in
theorem zd96 (h : (Reader.u1 : zRd Nat) B p = .ok (96, p + 1)) : Decoder.instr p B p = .ok (.iadd, p + 1) := by
  delta Decoder.instr
  exact (zbnd h).trans rfl
set_option maxRecDepth 16384 in
theorem zd46 (h : (Reader.u1 : zRd Nat) B p = .ok (46, p + 1)) : Decoder.instr p B p = .ok (.iaload, p + 1) := by
  delta Decoder.instr
  exact (zbnd h).trans rfl
set_option maxRecDepth 16384 in
theorem zd126 (h : (Reader.u1 : zRd Nat) B p = .ok (126, p + 1)) : Decoder.instr p B p = .ok (.iand, p + 1) := by
  delta Decoder.instr
  exact (zbnd h).trans rfl
set_option maxRecDepth 16384 in
theorem zd79 (h : (Reader.u1 : zRd Nat) B p = .ok (79, p + 1)) : Decoder.instr p B p = .ok (.iastore, p + 1) := by
  delta Decoder.instr
  exact (zbnd h).trans rfl
set_option maxRecDepth 16384 in
theorem zd108 (h : (Reader.u1 : zRd Nat) B p = .ok (108, p + 1)) : Decoder.instr p B p = .ok (.idiv, p + 1) := by
  delta Decoder.instr
  exact (zbnd h).trans rfl
set_option maxRecDepth 16384 in
theorem zd104 (h : (Reader.u1 : zRd Nat) B p = .ok (104, p + 1)) : Decoder.instr p B p = .ok (.imul, p + 1) := by
  delta Decoder.instr
  exact (zbnd h).trans rfl
set_option maxRecDepth 16384 in
theorem zd128 (h : (Reader.u1 : zRd Nat) B p = .ok (128, p + 1)) : Decoder.instr p B p = .ok (.ior, p + 1) := by
  delta Decoder.instr
  exact (zbnd h).trans rfl
set_option maxRecDepth 16384 in
theorem zd112 (h : (Reader.u1 : zRd Nat) B p = .ok (112, p + 1)) : Decoder.instr p B p = .ok (.irem, p + 1) := by
  delta Decoder.instr
  exact (zbnd h).trans rfl
set_option maxRecDepth 16384 in
theorem zd172 (h : (Reader.u1 : zRd Nat) B p = .ok (172, p + 1)) : Decoder.instr p B p = .ok (.ireturn, p + 1) := by
  delta Decoder.instr
  exact (zbnd h).trans rfl
set_option maxRecDepth 16384 in
theorem zd120 (h : (Reader.u1 : zRd Nat) B p = .ok (120, p + 1)) : Decoder.instr p B p = .ok (.ishl, p + 1) := by
  delta Decoder.instr
  exact (zbnd h).trans rfl
set_option maxRecDepth 16384 in
theorem zd122 (h : (Reader.u1 : zRd Nat) B p = .ok (122, p + 1)) : Decoder.instr p B p = .ok (.ishr, p + 1) := by
  delta Decoder.instr
  exact (zbnd h).trans rfl
set_option maxRecDepth 16384 in
theorem zd100 (h : (Reader.u1 : zRd Nat) B p = .ok (100, p + 1)) : Decoder.instr p B p = .ok (.isub, p + 1) := by
  delta Decoder.instr
  exact (zbnd h).trans rfl
set_option maxRecDepth 16384 in
theorem zd124 (h : (Reader.u1 : zRd Nat) B p = .ok (124, p + 1)) : Decoder.instr p B p = .ok (.iushr, p + 1) := by
  delta Decoder.instr
  exact (zbnd h).trans rfl
set_option maxRecDepth 16384 in
theorem zd130 (h : (Reader.u1 : zRd Nat) B p = .ok (130, p + 1)) : Decoder.instr p B p = .ok (.ixor, p + 1) := by
  delta Decoder.instr
  exact (zbnd h).trans rfl
set_option maxRecDepth 16384 in
theorem zd136 (h : (Reader.u1 : zRd Nat) B p = .ok (136, p + 1)) : Decoder.instr p B p = .ok (.l2i, p + 1) := by
  delta Decoder.instr
  exact (zbnd h).trans rfl
set_option maxRecDepth 16384 in
theorem zd97 (h : (Reader.u1 : zRd Nat) B p = .ok (97, p + 1)) : Decoder.instr p B p = .ok (.ladd, p + 1) := by
  delta Decoder.instr
  exact (zbnd h).trans rfl
set_option maxRecDepth 16384 in
theorem zd47 (h : (Reader.u1 : zRd Nat) B p = .ok (47, p + 1)) : Decoder.instr p B p = .ok (.laload, p + 1) := by
  delta Decoder.instr
  exact (zbnd h).trans rfl
set_option maxRecDepth 16384 in
theorem zd127 (h : (Reader.u1 : zRd Nat) B p = .ok (127, p + 1)) : Decoder.instr p B p = .ok (.land, p + 1) := by
  delta Decoder.instr
  exact (zbnd h).trans rfl
set_option maxRecDepth 16384 in
theorem zd80 (h : (Reader.u1 : zRd Nat) B p = .ok (80, p + 1)) : Decoder.instr p B p = .ok (.lastore, p + 1) := by
  delta Decoder.instr
  exact (zbnd h).trans rfl
set_option maxRecDepth 16384 in
theorem zd148 (h : (Reader.u1 : zRd Nat) B p = .ok (148, p + 1)) : Decoder.instr p B p = .ok (.lcmp, p + 1) := by
  delta Decoder.instr
  exact (zbnd h).trans rfl
set_option maxRecDepth 16384 in
theorem zd109 (h : (Reader.u1 : zRd Nat) B p = .ok (109, p + 1)) : Decoder.instr p B p = .ok (.ldiv, p + 1) := by
  delta Decoder.instr
  exact (zbnd h).trans rfl
set_option maxRecDepth 16384 in
theorem zd105 (h : (Reader.u1 : zRd Nat) B p = .ok (105, p + 1)) : Decoder.instr p B p = .ok (.lmul, p + 1) := by
  delta Decoder.instr
  exact (zbnd h).trans rfl
set_option maxRecDepth 16384 in
theorem zd129 (h : (Reader.u1 : zRd Nat) B p = .ok (129, p + 1)) : Decoder.instr p B p = .ok (.lor, p + 1) := by
  delta Decoder.instr
  exact (zbnd h).trans rfl
set_option maxRecDepth 16384 in
theorem zd113 (h : (Reader.u1 : zRd Nat) B p = .ok (113, p + 1)) : Decoder.instr p B p = .ok (.lrem, p + 1) := by
  delta Decoder.instr
  exact (zbnd h).trans rfl
set_option maxRecDepth 16384 in
theorem zd173 (h : (Reader.u1 : zRd Nat) B p = .ok (173, p + 1)) : Decoder.instr p B p = .ok (.lreturn, p + 1) := by
  delta Decoder.instr
  exact (zbnd h).trans rfl
set_option maxRecDepth 16384 in
theorem zd121 (h : (Reader.u1 : zRd Nat) B p = .ok (121, p + 1)) : Decoder.instr p B p = .ok (.lshl, p + 1) := by
  delta Decoder.instr
  exact (zbnd h).trans rfl
set_option maxRecDepth 16384 in
theorem zd101 (h : (Reader.u1 : zRd Nat) B p = .ok (101, p + 1)) : Decoder.instr p B p = .ok (.lsub, p + 1) := by
  delta Decoder.instr
  exact (zbnd h).trans rfl
set_option maxRecDepth 16384 in
theorem zd87 (h : (Reader.u1 : zRd Nat) B p = .ok (87, p + 1)) : Decoder.instr p B p = .ok (.pop, p + 1) := by
  delta Decoder.instr
  exact (zbnd h).trans rfl
set_option maxRecDepth 16384 in
theorem zd177 (h : (Reader.u1 : zRd Nat) B p = .ok (177, p + 1)) : Decoder.instr p B p = .ok (.return_, p + 1) := by
  delta Decoder.instr
  exact (zbnd h).trans rfl
set_option maxRecDepth 16384 in
theorem zd42 (h : (Reader.u1 : zRd Nat) B p = .ok (42, p + 1)) : Decoder.instr p B p = .ok (.aload_n 0, p + 1) := by
  delta Decoder.instr
  exact (zbnd h).trans rfl
set_option maxRecDepth 16384 in
theorem zd43 (h : (Reader.u1 : zRd Nat) B p = .ok (43, p + 1)) : Decoder.instr p B p = .ok (.aload_n 1, p + 1) := by
  delta Decoder.instr
  exact (zbnd h).trans rfl
set_option maxRecDepth 16384 in
theorem zd44 (h : (Reader.u1 : zRd Nat) B p = .ok (44, p + 1)) : Decoder.instr p B p = .ok (.aload_n 2, p + 1) := by
  delta Decoder.instr
  exact (zbnd h).trans rfl
set_option maxRecDepth 16384 in
theorem zd45 (h : (Reader.u1 : zRd Nat) B p = .ok (45, p + 1)) : Decoder.instr p B p = .ok (.aload_n 3, p + 1) := by
  delta Decoder.instr
  exact (zbnd h).trans rfl
set_option maxRecDepth 16384 in
theorem zd26 (h : (Reader.u1 : zRd Nat) B p = .ok (26, p + 1)) : Decoder.instr p B p = .ok (.iload_n 0, p + 1) := by
  delta Decoder.instr
  exact (zbnd h).trans rfl
set_option maxRecDepth 16384 in
theorem zd27 (h : (Reader.u1 : zRd Nat) B p = .ok (27, p + 1)) : Decoder.instr p B p = .ok (.iload_n 1, p + 1) := by
  delta Decoder.instr
  exact (zbnd h).trans rfl
set_option maxRecDepth 16384 in
theorem zd28 (h : (Reader.u1 : zRd Nat) B p = .ok (28, p + 1)) : Decoder.instr p B p = .ok (.iload_n 2, p + 1) := by
  delta Decoder.instr
  exact (zbnd h).trans rfl
set_option maxRecDepth 16384 in
theorem zd29 (h : (Reader.u1 : zRd Nat) B p = .ok (29, p + 1)) : Decoder.instr p B p = .ok (.iload_n 3, p + 1) := by
  delta Decoder.instr
  exact (zbnd h).trans rfl
set_option maxRecDepth 16384 in
theorem zd59 (h : (Reader.u1 : zRd Nat) B p = .ok (59, p + 1)) : Decoder.instr p B p = .ok (.istore_n 0, p + 1) := by
  delta Decoder.instr
  exact (zbnd h).trans rfl
set_option maxRecDepth 16384 in
theorem zd60 (h : (Reader.u1 : zRd Nat) B p = .ok (60, p + 1)) : Decoder.instr p B p = .ok (.istore_n 1, p + 1) := by
  delta Decoder.instr
  exact (zbnd h).trans rfl
set_option maxRecDepth 16384 in
theorem zd61 (h : (Reader.u1 : zRd Nat) B p = .ok (61, p + 1)) : Decoder.instr p B p = .ok (.istore_n 2, p + 1) := by
  delta Decoder.instr
  exact (zbnd h).trans rfl
set_option maxRecDepth 16384 in
theorem zd62 (h : (Reader.u1 : zRd Nat) B p = .ok (62, p + 1)) : Decoder.instr p B p = .ok (.istore_n 3, p + 1) := by
  delta Decoder.instr
  exact (zbnd h).trans rfl
set_option maxRecDepth 16384 in
theorem zd30 (h : (Reader.u1 : zRd Nat) B p = .ok (30, p + 1)) : Decoder.instr p B p = .ok (.lload_n 0, p + 1) := by
  delta Decoder.instr
  exact (zbnd h).trans rfl
set_option maxRecDepth 16384 in
theorem zd31 (h : (Reader.u1 : zRd Nat) B p = .ok (31, p + 1)) : Decoder.instr p B p = .ok (.lload_n 1, p + 1) := by
  delta Decoder.instr
  exact (zbnd h).trans rfl
set_option maxRecDepth 16384 in
theorem zd32 (h : (Reader.u1 : zRd Nat) B p = .ok (32, p + 1)) : Decoder.instr p B p = .ok (.lload_n 2, p + 1) := by
  delta Decoder.instr
  exact (zbnd h).trans rfl
set_option maxRecDepth 16384 in
theorem zd33 (h : (Reader.u1 : zRd Nat) B p = .ok (33, p + 1)) : Decoder.instr p B p = .ok (.lload_n 3, p + 1) := by
  delta Decoder.instr
  exact (zbnd h).trans rfl
set_option maxRecDepth 16384 in
theorem zd63 (h : (Reader.u1 : zRd Nat) B p = .ok (63, p + 1)) : Decoder.instr p B p = .ok (.lstore_n 0, p + 1) := by
  delta Decoder.instr
  exact (zbnd h).trans rfl
set_option maxRecDepth 16384 in
theorem zd64 (h : (Reader.u1 : zRd Nat) B p = .ok (64, p + 1)) : Decoder.instr p B p = .ok (.lstore_n 1, p + 1) := by
  delta Decoder.instr
  exact (zbnd h).trans rfl
set_option maxRecDepth 16384 in
theorem zd65 (h : (Reader.u1 : zRd Nat) B p = .ok (65, p + 1)) : Decoder.instr p B p = .ok (.lstore_n 2, p + 1) := by
  delta Decoder.instr
  exact (zbnd h).trans rfl
set_option maxRecDepth 16384 in
theorem zd66 (h : (Reader.u1 : zRd Nat) B p = .ok (66, p + 1)) : Decoder.instr p B p = .ok (.lstore_n 3, p + 1) := by
  delta Decoder.instr
  exact (zbnd h).trans rfl
set_option maxRecDepth 16384 in
theorem zd75 (h : (Reader.u1 : zRd Nat) B p = .ok (75, p + 1)) : Decoder.instr p B p = .ok (.astore_n 0, p + 1) := by
  delta Decoder.instr
  exact (zbnd h).trans rfl
set_option maxRecDepth 16384 in
theorem zd76 (h : (Reader.u1 : zRd Nat) B p = .ok (76, p + 1)) : Decoder.instr p B p = .ok (.astore_n 1, p + 1) := by
  delta Decoder.instr
  exact (zbnd h).trans rfl
set_option maxRecDepth 16384 in
theorem zd77 (h : (Reader.u1 : zRd Nat) B p = .ok (77, p + 1)) : Decoder.instr p B p = .ok (.astore_n 2, p + 1) := by
  delta Decoder.instr
  exact (zbnd h).trans rfl
set_option maxRecDepth 16384 in
theorem zd78 (h : (Reader.u1 : zRd Nat) B p = .ok (78, p + 1)) : Decoder.instr p B p = .ok (.astore_n 3, p + 1) := by
  delta Decoder.instr
  exact (zbnd h).trans rfl
set_option maxRecDepth 16384 in
theorem zd9 (h : (Reader.u1 : zRd Nat) B p = .ok (9, p + 1)) : Decoder.instr p B p = .ok (.lconst 0, p + 1) := by
  delta Decoder.instr
  exact (zbnd h).trans rfl
set_option maxRecDepth 16384 in
theorem zd10 (h : (Reader.u1 : zRd Nat) B p = .ok (10, p + 1)) : Decoder.instr p B p = .ok (.lconst 1, p + 1) := by
  delta Decoder.instr
  exact (zbnd h).trans rfl
set_option maxRecDepth 16384 in
theorem zd2 (h : (Reader.u1 : zRd Nat) B p = .ok (2, p + 1)) : Decoder.instr p B p = .ok (.iconst (-1), p + 1) := by
  delta Decoder.instr
  exact (zbnd h).trans rfl
set_option maxRecDepth 16384 in
theorem zd3 (h : (Reader.u1 : zRd Nat) B p = .ok (3, p + 1)) : Decoder.instr p B p = .ok (.iconst (0), p + 1) := by
  delta Decoder.instr
  exact (zbnd h).trans rfl
set_option maxRecDepth 16384 in
theorem zd4 (h : (Reader.u1 : zRd Nat) B p = .ok (4, p + 1)) : Decoder.instr p B p = .ok (.iconst (1), p + 1) := by
  delta Decoder.instr
  exact (zbnd h).trans rfl
set_option maxRecDepth 16384 in
theorem zd5 (h : (Reader.u1 : zRd Nat) B p = .ok (5, p + 1)) : Decoder.instr p B p = .ok (.iconst (2), p + 1) := by
  delta Decoder.instr
  exact (zbnd h).trans rfl
set_option maxRecDepth 16384 in
theorem zd6 (h : (Reader.u1 : zRd Nat) B p = .ok (6, p + 1)) : Decoder.instr p B p = .ok (.iconst (3), p + 1) := by
  delta Decoder.instr
  exact (zbnd h).trans rfl
set_option maxRecDepth 16384 in
theorem zd7 (h : (Reader.u1 : zRd Nat) B p = .ok (7, p + 1)) : Decoder.instr p B p = .ok (.iconst (4), p + 1) := by
  delta Decoder.instr
  exact (zbnd h).trans rfl
set_option maxRecDepth 16384 in
theorem zd8 (h : (Reader.u1 : zRd Nat) B p = .ok (8, p + 1)) : Decoder.instr p B p = .ok (.iconst (5), p + 1) := by
  delta Decoder.instr
  exact (zbnd h).trans rfl
set_option maxRecDepth 16384 in
theorem zd21 (h : (Reader.u1 : zRd Nat) B p = .ok (21, p + 1)) (h1 : (Reader.u1 : zRd Nat) B (p + 1) = .ok (a, p + 2)) : Decoder.instr p B p = .ok (.iload a, p + 2) := by
  delta Decoder.instr
  exact (zbnd h).trans ((zbnd h1).trans rfl)
set_option maxRecDepth 16384 in
theorem zd54 (h : (Reader.u1 : zRd Nat) B p = .ok (54, p + 1)) (h1 : (Reader.u1 : zRd Nat) B (p + 1) = .ok (a, p + 2)) : Decoder.instr p B p = .ok (.istore a, p + 2) := by
  delta Decoder.instr
  exact (zbnd h).trans ((zbnd h1).trans rfl)
set_option maxRecDepth 16384 in
theorem zd22 (h : (Reader.u1 : zRd Nat) B p = .ok (22, p + 1)) (h1 : (Reader.u1 : zRd Nat) B (p + 1) = .ok (a, p + 2)) : Decoder.instr p B p = .ok (.lload a, p + 2) := by
  delta Decoder.instr
  exact (zbnd h).trans ((zbnd h1).trans rfl)
set_option maxRecDepth 16384 in
theorem zd55 (h : (Reader.u1 : zRd Nat) B p = .ok (55, p + 1)) (h1 : (Reader.u1 : zRd Nat) B (p + 1) = .ok (a, p + 2)) : Decoder.instr p B p = .ok (.lstore a, p + 2) := by
  delta Decoder.instr
  exact (zbnd h).trans ((zbnd h1).trans rfl)
set_option maxRecDepth 16384 in
theorem zd18 (h : (Reader.u1 : zRd Nat) B p = .ok (18, p + 1)) (h1 : (Reader.u1 : zRd Nat) B (p + 1) = .ok (a, p + 2)) : Decoder.instr p B p = .ok (.ldc a, p + 2) := by
  delta Decoder.instr
  exact (zbnd h).trans ((zbnd h1).trans rfl)
set_option maxRecDepth 16384 in
theorem zd182 (h : (Reader.u1 : zRd Nat) B p = .ok (182, p + 1)) (h1 : (Reader.u2 : zRd Nat) B (p + 1) = .ok (a, p + 3)) : Decoder.instr p B p = .ok (.invokevirtual a, p + 3) := by
  delta Decoder.instr
  exact (zbnd h).trans ((zbnd h1).trans rfl)
set_option maxRecDepth 16384 in
theorem zd180 (h : (Reader.u1 : zRd Nat) B p = .ok (180, p + 1)) (h1 : (Reader.u2 : zRd Nat) B (p + 1) = .ok (a, p + 3)) : Decoder.instr p B p = .ok (.getfield a, p + 3) := by
  delta Decoder.instr
  exact (zbnd h).trans ((zbnd h1).trans rfl)
set_option maxRecDepth 16384 in
theorem zd181 (h : (Reader.u1 : zRd Nat) B p = .ok (181, p + 1)) (h1 : (Reader.u2 : zRd Nat) B (p + 1) = .ok (a, p + 3)) : Decoder.instr p B p = .ok (.putfield a, p + 3) := by
  delta Decoder.instr
  exact (zbnd h).trans ((zbnd h1).trans rfl)
set_option maxRecDepth 16384 in
theorem zd184 (h : (Reader.u1 : zRd Nat) B p = .ok (184, p + 1)) (h1 : (Reader.u2 : zRd Nat) B (p + 1) = .ok (a, p + 3)) : Decoder.instr p B p = .ok (.invokestatic a, p + 3) := by
  delta Decoder.instr
  exact (zbnd h).trans ((zbnd h1).trans rfl)
set_option maxRecDepth 16384 in
theorem zd183 (h : (Reader.u1 : zRd Nat) B p = .ok (183, p + 1)) (h1 : (Reader.u2 : zRd Nat) B (p + 1) = .ok (a, p + 3)) : Decoder.instr p B p = .ok (.invokespecial a, p + 3) := by
  delta Decoder.instr
  exact (zbnd h).trans ((zbnd h1).trans rfl)
set_option maxRecDepth 16384 in
theorem zd20 (h : (Reader.u1 : zRd Nat) B p = .ok (20, p + 1)) (h1 : (Reader.u2 : zRd Nat) B (p + 1) = .ok (a, p + 3)) : Decoder.instr p B p = .ok (.ldc2_w a, p + 3) := by
  delta Decoder.instr
  exact (zbnd h).trans ((zbnd h1).trans rfl)
set_option maxRecDepth 16384 in
theorem zd19 (h : (Reader.u1 : zRd Nat) B p = .ok (19, p + 1)) (h1 : (Reader.u2 : zRd Nat) B (p + 1) = .ok (a, p + 3)) : Decoder.instr p B p = .ok (.ldc_w a, p + 3) := by
  delta Decoder.instr
  exact (zbnd h).trans ((zbnd h1).trans rfl)
set_option maxRecDepth 16384 in
theorem zd187 (h : (Reader.u1 : zRd Nat) B p = .ok (187, p + 1)) (h1 : (Reader.u2 : zRd Nat) B (p + 1) = .ok (a, p + 3)) : Decoder.instr p B p = .ok (.new a, p + 3) := by
  delta Decoder.instr
  exact (zbnd h).trans ((zbnd h1).trans rfl)
set_option maxRecDepth 16384 in
theorem zd178 (h : (Reader.u1 : zRd Nat) B p = .ok (178, p + 1)) (h1 : (Reader.u2 : zRd Nat) B (p + 1) = .ok (a, p + 3)) : Decoder.instr p B p = .ok (.getstatic a, p + 3) := by
  delta Decoder.instr
  exact (zbnd h).trans ((zbnd h1).trans rfl)
set_option maxRecDepth 16384 in
theorem zd192 (h : (Reader.u1 : zRd Nat) B p = .ok (192, p + 1)) (h1 : (Reader.u2 : zRd Nat) B (p + 1) = .ok (a, p + 3)) : Decoder.instr p B p = .ok (.checkcast a, p + 3) := by
  delta Decoder.instr
  exact (zbnd h).trans ((zbnd h1).trans rfl)
set_option maxRecDepth 16384 in
theorem zd189 (h : (Reader.u1 : zRd Nat) B p = .ok (189, p + 1)) (h1 : (Reader.u2 : zRd Nat) B (p + 1) = .ok (a, p + 3)) : Decoder.instr p B p = .ok (.anewarray a, p + 3) := by
  delta Decoder.instr
  exact (zbnd h).trans ((zbnd h1).trans rfl)
set_option maxRecDepth 16384 in
theorem zd16 (h : (Reader.u1 : zRd Nat) B p = .ok (16, p + 1)) (h1 : (Reader.u1 : zRd Nat) B (p + 1) = .ok (a, p + 2)) : Decoder.instr p B p = .ok (.bipush (Reader.signed 8 a), p + 2) := by
  delta Decoder.instr
  exact (zbnd h).trans ((zbnd (zmp (g := Reader.signed 8) h1)).trans rfl)
set_option maxRecDepth 16384 in
theorem zd17 (h : (Reader.u1 : zRd Nat) B p = .ok (17, p + 1)) (h1 : (Reader.u2 : zRd Nat) B (p + 1) = .ok (a, p + 3)) : Decoder.instr p B p = .ok (.sipush (Reader.signed 16 a), p + 3) := by
  delta Decoder.instr
  exact (zbnd h).trans ((zbnd (zmp (g := Reader.signed 16) h1)).trans rfl)
set_option maxRecDepth 16384 in
theorem zd167 (h : (Reader.u1 : zRd Nat) B p = .ok (167, p + 1)) (h1 : (Reader.u2 : zRd Nat) B (p + 1) = .ok (a, p + 3)) : Decoder.instr p B p = .ok (.goto (Reader.signed 16 a), p + 3) := by
  delta Decoder.instr
  exact (zbnd h).trans ((zbnd (zmp (g := Reader.signed 16) h1)).trans rfl)
set_option maxRecDepth 16384 in
theorem zd198 (h : (Reader.u1 : zRd Nat) B p = .ok (198, p + 1)) (h1 : (Reader.u2 : zRd Nat) B (p + 1) = .ok (a, p + 3)) : Decoder.instr p B p = .ok (.ifnull (Reader.signed 16 a), p + 3) := by
  delta Decoder.instr
  exact (zbnd h).trans ((zbnd (zmp (g := Reader.signed 16) h1)).trans rfl)
set_option maxRecDepth 16384 in
theorem zd199 (h : (Reader.u1 : zRd Nat) B p = .ok (199, p + 1)) (h1 : (Reader.u2 : zRd Nat) B (p + 1) = .ok (a, p + 3)) : Decoder.instr p B p = .ok (.ifnonnull (Reader.signed 16 a), p + 3) := by
  delta Decoder.instr
  exact (zbnd h).trans ((zbnd (zmp (g := Reader.signed 16) h1)).trans rfl)
set_option maxRecDepth 16384 in
theorem zd153 (h : (Reader.u1 : zRd Nat) B p = .ok (153, p + 1)) (h1 : (Reader.u2 : zRd Nat) B (p + 1) = .ok (a, p + 3)) : Decoder.instr p B p = .ok (.ifCond .eq (Reader.signed 16 a), p + 3) := by
  delta Decoder.instr
  exact (zbnd h).trans ((zbnd (zmp (g := Reader.signed 16) h1)).trans rfl)
set_option maxRecDepth 16384 in
theorem zd159 (h : (Reader.u1 : zRd Nat) B p = .ok (159, p + 1)) (h1 : (Reader.u2 : zRd Nat) B (p + 1) = .ok (a, p + 3)) : Decoder.instr p B p = .ok (.if_icmp .eq (Reader.signed 16 a), p + 3) := by
  delta Decoder.instr
  exact (zbnd h).trans ((zbnd (zmp (g := Reader.signed 16) h1)).trans rfl)
set_option maxRecDepth 16384 in
theorem zd154 (h : (Reader.u1 : zRd Nat) B p = .ok (154, p + 1)) (h1 : (Reader.u2 : zRd Nat) B (p + 1) = .ok (a, p + 3)) : Decoder.instr p B p = .ok (.ifCond .ne (Reader.signed 16 a), p + 3) := by
  delta Decoder.instr
  exact (zbnd h).trans ((zbnd (zmp (g := Reader.signed 16) h1)).trans rfl)
set_option maxRecDepth 16384 in
theorem zd160 (h : (Reader.u1 : zRd Nat) B p = .ok (160, p + 1)) (h1 : (Reader.u2 : zRd Nat) B (p + 1) = .ok (a, p + 3)) : Decoder.instr p B p = .ok (.if_icmp .ne (Reader.signed 16 a), p + 3) := by
  delta Decoder.instr
  exact (zbnd h).trans ((zbnd (zmp (g := Reader.signed 16) h1)).trans rfl)
set_option maxRecDepth 16384 in
theorem zd155 (h : (Reader.u1 : zRd Nat) B p = .ok (155, p + 1)) (h1 : (Reader.u2 : zRd Nat) B (p + 1) = .ok (a, p + 3)) : Decoder.instr p B p = .ok (.ifCond .lt (Reader.signed 16 a), p + 3) := by
  delta Decoder.instr
  exact (zbnd h).trans ((zbnd (zmp (g := Reader.signed 16) h1)).trans rfl)
set_option maxRecDepth 16384 in
theorem zd161 (h : (Reader.u1 : zRd Nat) B p = .ok (161, p + 1)) (h1 : (Reader.u2 : zRd Nat) B (p + 1) = .ok (a, p + 3)) : Decoder.instr p B p = .ok (.if_icmp .lt (Reader.signed 16 a), p + 3) := by
  delta Decoder.instr
  exact (zbnd h).trans ((zbnd (zmp (g := Reader.signed 16) h1)).trans rfl)
set_option maxRecDepth 16384 in
theorem zd156 (h : (Reader.u1 : zRd Nat) B p = .ok (156, p + 1)) (h1 : (Reader.u2 : zRd Nat) B (p + 1) = .ok (a, p + 3)) : Decoder.instr p B p = .ok (.ifCond .ge (Reader.signed 16 a), p + 3) := by
  delta Decoder.instr
  exact (zbnd h).trans ((zbnd (zmp (g := Reader.signed 16) h1)).trans rfl)
set_option maxRecDepth 16384 in
theorem zd162 (h : (Reader.u1 : zRd Nat) B p = .ok (162, p + 1)) (h1 : (Reader.u2 : zRd Nat) B (p + 1) = .ok (a, p + 3)) : Decoder.instr p B p = .ok (.if_icmp .ge (Reader.signed 16 a), p + 3) := by
  delta Decoder.instr
  exact (zbnd h).trans ((zbnd (zmp (g := Reader.signed 16) h1)).trans rfl)
set_option maxRecDepth 16384 in
theorem zd157 (h : (Reader.u1 : zRd Nat) B p = .ok (157, p + 1)) (h1 : (Reader.u2 : zRd Nat) B (p + 1) = .ok (a, p + 3)) : Decoder.instr p B p = .ok (.ifCond .gt (Reader.signed 16 a), p + 3) := by
  delta Decoder.instr
  exact (zbnd h).trans ((zbnd (zmp (g := Reader.signed 16) h1)).trans rfl)
set_option maxRecDepth 16384 in
theorem zd163 (h : (Reader.u1 : zRd Nat) B p = .ok (163, p + 1)) (h1 : (Reader.u2 : zRd Nat) B (p + 1) = .ok (a, p + 3)) : Decoder.instr p B p = .ok (.if_icmp .gt (Reader.signed 16 a), p + 3) := by
  delta Decoder.instr
  exact (zbnd h).trans ((zbnd (zmp (g := Reader.signed 16) h1)).trans rfl)
set_option maxRecDepth 16384 in
theorem zd158 (h : (Reader.u1 : zRd Nat) B p = .ok (158, p + 1)) (h1 : (Reader.u2 : zRd Nat) B (p + 1) = .ok (a, p + 3)) : Decoder.instr p B p = .ok (.ifCond .le (Reader.signed 16 a), p + 3) := by
  delta Decoder.instr
  exact (zbnd h).trans ((zbnd (zmp (g := Reader.signed 16) h1)).trans rfl)
set_option maxRecDepth 16384 in
theorem zd164 (h : (Reader.u1 : zRd Nat) B p = .ok (164, p + 1)) (h1 : (Reader.u2 : zRd Nat) B (p + 1) = .ok (a, p + 3)) : Decoder.instr p B p = .ok (.if_icmp .le (Reader.signed 16 a), p + 3) := by
  delta Decoder.instr
  exact (zbnd h).trans ((zbnd (zmp (g := Reader.signed 16) h1)).trans rfl)
set_option maxRecDepth 16384 in
theorem zd132 (h : (Reader.u1 : zRd Nat) B p = .ok (132, p + 1)) (h1 : (Reader.u1 : zRd Nat) B (p + 1) = .ok (a, p + 2)) (h2 : (Reader.u1 : zRd Nat) B (p + 2) = .ok (b, p + 3)) : Decoder.instr p B p = .ok (.iinc a (Reader.signed 8 b), p + 3) := by
  delta Decoder.instr
  exact (zbnd h).trans ((zbnd h1).trans ((zbnd (zmp (g := Reader.signed 8) h2)).trans rfl))
set_option maxRecDepth 16384 in
theorem zd188_4 (h : (Reader.u1 : zRd Nat) B p = .ok (188, p + 1)) (h1 : (Reader.u1 : zRd Nat) B (p + 1) = .ok (4, p + 2)) : Decoder.instr p B p = .ok (.newarray .boolean, p + 2) := by
  delta Decoder.instr
  refine (zbnd h).trans ?_
  show Decoder.newarray p B (p + 1) = _
  delta Decoder.newarray
  exact (zbnd h1).trans rfl
set_option maxRecDepth 16384 in
theorem zd188_5 (h : (Reader.u1 : zRd Nat) B p = .ok (188, p + 1)) (h1 : (Reader.u1 : zRd Nat) B (p + 1) = .ok (5, p + 2)) : Decoder.instr p B p = .ok (.newarray .char, p + 2) := by
  delta Decoder.instr
  refine (zbnd h).trans ?_
  show Decoder.newarray p B (p + 1) = _
  delta Decoder.newarray
  exact (zbnd h1).trans rfl
set_option maxRecDepth 16384 in
theorem zd188_6 (h : (Reader.u1 : zRd Nat) B p = .ok (188, p + 1)) (h1 : (Reader.u1 : zRd Nat) B (p + 1) = .ok (6, p + 2)) : Decoder.instr p B p = .ok (.newarray .float, p + 2) := by
  delta Decoder.instr
  refine (zbnd h).trans ?_
  show Decoder.newarray p B (p + 1) = _
  delta Decoder.newarray
  exact (zbnd h1).trans rfl
set_option maxRecDepth 16384 in
theorem zd188_7 (h : (Reader.u1 : zRd Nat) B p = .ok (188, p + 1)) (h1 : (Reader.u1 : zRd Nat) B (p + 1) = .ok (7, p + 2)) : Decoder.instr p B p = .ok (.newarray .double, p + 2) := by
  delta Decoder.instr
  refine (zbnd h).trans ?_
  show Decoder.newarray p B (p + 1) = _
  delta Decoder.newarray
  exact (zbnd h1).trans rfl
set_option maxRecDepth 16384 in
theorem zd188_8 (h : (Reader.u1 : zRd Nat) B p = .ok (188, p + 1)) (h1 : (Reader.u1 : zRd Nat) B (p + 1) = .ok (8, p + 2)) : Decoder.instr p B p = .ok (.newarray .byte, p + 2) := by
  delta Decoder.instr
  refine (zbnd h).trans ?_
  show Decoder.newarray p B (p + 1) = _
  delta Decoder.newarray
  exact (zbnd h1).trans rfl
set_option maxRecDepth 16384 in
theorem zd188_9 (h : (Reader.u1 : zRd Nat) B p = .ok (188, p + 1)) (h1 : (Reader.u1 : zRd Nat) B (p + 1) = .ok (9, p + 2)) : Decoder.instr p B p = .ok (.newarray .short, p + 2) := by
  delta Decoder.instr
  refine (zbnd h).trans ?_
  show Decoder.newarray p B (p + 1) = _
  delta Decoder.newarray
  exact (zbnd h1).trans rfl
set_option maxRecDepth 16384 in
theorem zd188_10 (h : (Reader.u1 : zRd Nat) B p = .ok (188, p + 1)) (h1 : (Reader.u1 : zRd Nat) B (p + 1) = .ok (10, p + 2)) : Decoder.instr p B p = .ok (.newarray .int, p + 2) := by
  delta Decoder.instr
  refine (zbnd h).trans ?_
  show Decoder.newarray p B (p + 1) = _
  delta Decoder.newarray
  exact (zbnd h1).trans rfl
set_option maxRecDepth 16384 in
theorem zd188_11 (h : (Reader.u1 : zRd Nat) B p = .ok (188, p + 1)) (h1 : (Reader.u1 : zRd Nat) B (p + 1) = .ok (11, p + 2)) : Decoder.instr p B p = .ok (.newarray .long, p + 2) := by
  delta Decoder.instr
  refine (zbnd h).trans ?_
  show Decoder.newarray p B (p + 1) = _
  delta Decoder.newarray
  exact (zbnd h1).trans rfl
end DQ
noncomputable def byQ (l : List UInt8) : Nat → Nat := List.rec (fun _ => 256) (fun a _ ih j => Nat.rec a.toNat (fun m _ => ih m) j) l
theorem byQ_s {l : List UInt8} : ∀ {j b : Nat}, byQ l j = b → b < 256 → ∃ x, l[j]? = some x ∧ x.toNat = b := by
  induction l with
  | nil => intro j b h hb; exact absurd (show 256 = b from h) (by omega)
  | cons a l ih =>
    intro j b h hb
    cases j with
    | zero => exact ⟨a, rfl, h⟩
    | succ j => exact ih (j := j) h hb
theorem byQ_u {B : ByteArray} {l : List UInt8} {p j b : Nat} (hl : ∀ j, l[j]? = B.data.toList[p + j]?) (h : byQ l j = b) (hb : b < 256) : (Reader.u1 : zRd Nat) B (p + j) = .ok (b, p + j + 1) := by
  obtain ⟨x, h1, h2⟩ := byQ_s h hb
  rw [hl] at h1
  have := zu1 h1
  rw [h2] at this
  exact this
noncomputable def aQ (a b : Bool) : Bool := Bool.rec false b a
theorem aQ_e {a b : Bool} : aQ a b = true ↔ a = true ∧ b = true := by cases a <;> cases b <;> decide
theorem neQ {a b : Nat} : Nat.beq a b = true ↔ a = b := by rw [Nat.beq_eq]
theorem ntQ {a b : Nat} : Nat.blt a b = true ↔ a < b := by rw [Nat.blt_eq]
noncomputable def niQ (a b : Int) : Bool := Int.rec (fun m => Int.rec (fun n => Nat.beq m n) (fun _ => false) b) (fun m => Int.rec (fun _ => false) (fun n => Nat.beq m n) b) a
theorem niQ_e {a b : Int} (h : niQ a b = true) : a = b := by
  cases a with
  | ofNat m => cases b with
    | ofNat n => exact congrArg Int.ofNat (neQ.mp h)
    | negSucc n => exact Bool.noConfusion h
  | negSucc m => cases b with
    | ofNat n => exact Bool.noConfusion h
    | negSucc n => exact congrArg Int.negSucc (neQ.mp h)
noncomputable def c0Q (l : List UInt8) (len op : Nat) : Bool := aQ (Nat.beq (byQ l 0) op) (Nat.beq len 1)
noncomputable def c1Q (l : List UInt8) (len op a : Nat) : Bool := aQ (Nat.beq (byQ l 0) op) (aQ (Nat.beq len 2) (aQ (Nat.blt a 256) (Nat.beq (byQ l 1) a)))
noncomputable def c2Q (l : List UInt8) (len op a : Nat) : Bool := aQ (Nat.beq (byQ l 0) op) (aQ (Nat.beq len 3) (aQ (Nat.blt (byQ l 1) 256) (aQ (Nat.blt (byQ l 2) 256) (Nat.beq (byQ l 1 * 256 + byQ l 2) a))))
noncomputable def c3Q (l : List UInt8) (len op : Nat) (a : Int) : Bool := aQ (Nat.beq (byQ l 0) op) (aQ (Nat.beq len 2) (aQ (Nat.blt (byQ l 1) 256) (niQ (Reader.signed 8 (byQ l 1)) a)))
noncomputable def c4Q (l : List UInt8) (len op : Nat) (a : Int) : Bool := aQ (Nat.beq (byQ l 0) op) (aQ (Nat.beq len 3) (aQ (Nat.blt (byQ l 1) 256) (aQ (Nat.blt (byQ l 2) 256) (niQ (Reader.signed 16 (byQ l 1 * 256 + byQ l 2)) a))))
noncomputable def c5Q (l : List UInt8) (len op a : Nat) (c : Int) : Bool := aQ (Nat.beq (byQ l 0) op) (aQ (Nat.beq len 3) (aQ (aQ (Nat.blt a 256) (Nat.beq (byQ l 1) a)) (aQ (Nat.blt (byQ l 2) 256) (niQ (Reader.signed 8 (byQ l 2)) c))))
section CQ
variable {B : ByteArray} {l : List UInt8} {p len op : Nat}
theorem c0Q_e (hl : ∀ j, l[j]? = B.data.toList[p + j]?) (ho : op < 256) (h : c0Q l len op = true) : (Reader.u1 : zRd Nat) B p = .ok (op, p + 1) ∧ len = 1 := by
  have h := aQ_e.mp h
  exact ⟨byQ_u hl (neQ.mp h.1) ho, neQ.mp h.2⟩
theorem c1Q_e {a : Nat} (hl : ∀ j, l[j]? = B.data.toList[p + j]?) (ho : op < 256) (h : c1Q l len op a = true) : (Reader.u1 : zRd Nat) B p = .ok (op, p + 1) ∧ (Reader.u1 : zRd Nat) B (p + 1) = .ok (a, p + 2) ∧ len = 2 := by
  have h := aQ_e.mp h
  have h2 := aQ_e.mp h.2
  have h3 := aQ_e.mp h2.2
  exact ⟨byQ_u hl (neQ.mp h.1) ho, byQ_u hl (neQ.mp h3.2) (ntQ.mp h3.1), neQ.mp h2.1⟩
theorem c2Q_e {a : Nat} (hl : ∀ j, l[j]? = B.data.toList[p + j]?) (ho : op < 256) (h : c2Q l len op a = true) : (Reader.u1 : zRd Nat) B p = .ok (op, p + 1) ∧ (Reader.u2 : zRd Nat) B (p + 1) = .ok (a, p + 3) ∧ len = 3 := by
  have h := aQ_e.mp h
  have h2 := aQ_e.mp h.2
  have h3 := aQ_e.mp h2.2
  have h4 := aQ_e.mp h3.2
  have e := zu2 (byQ_u (j := 1) hl rfl (ntQ.mp h3.1)) (byQ_u (j := 2) hl rfl (ntQ.mp h4.1))
  rw [neQ.mp h4.2] at e
  exact ⟨byQ_u hl (neQ.mp h.1) ho, e, neQ.mp h2.1⟩
theorem c3Q_e {a : Int} (hl : ∀ j, l[j]? = B.data.toList[p + j]?) (ho : op < 256) (h : c3Q l len op a = true) : (Reader.u1 : zRd Nat) B p = .ok (op, p + 1) ∧ (∃ x, (Reader.u1 : zRd Nat) B (p + 1) = .ok (x, p + 2) ∧ Reader.signed 8 x = a) ∧ len = 2 := by
  have h := aQ_e.mp h
  have h2 := aQ_e.mp h.2
  have h3 := aQ_e.mp h2.2
  exact ⟨byQ_u hl (neQ.mp h.1) ho, ⟨_, byQ_u (j := 1) hl rfl (ntQ.mp h3.1), niQ_e h3.2⟩, neQ.mp h2.1⟩
theorem c4Q_e {a : Int} (hl : ∀ j, l[j]? = B.data.toList[p + j]?) (ho : op < 256) (h : c4Q l len op a = true) : (Reader.u1 : zRd Nat) B p = .ok (op, p + 1) ∧ (∃ x, (Reader.u2 : zRd Nat) B (p + 1) = .ok (x, p + 3) ∧ Reader.signed 16 x = a) ∧ len = 3 := by
  have h := aQ_e.mp h
  have h2 := aQ_e.mp h.2
  have h3 := aQ_e.mp h2.2
  have h4 := aQ_e.mp h3.2
  exact ⟨byQ_u hl (neQ.mp h.1) ho, ⟨_, zu2 (byQ_u (j := 1) hl rfl (ntQ.mp h3.1)) (byQ_u (j := 2) hl rfl (ntQ.mp h4.1)), niQ_e h4.2⟩, neQ.mp h2.1⟩
theorem c5Q_e {a : Nat} {c : Int} (hl : ∀ j, l[j]? = B.data.toList[p + j]?) (ho : op < 256) (h : c5Q l len op a c = true) : (Reader.u1 : zRd Nat) B p = .ok (op, p + 1) ∧ (Reader.u1 : zRd Nat) B (p + 1) = .ok (a, p + 2) ∧ (∃ x, (Reader.u1 : zRd Nat) B (p + 2) = .ok (x, p + 3) ∧ Reader.signed 8 x = c) ∧ len = 3 := by
  have h := aQ_e.mp h
  have h2 := aQ_e.mp h.2
  have h3 := aQ_e.mp h2.2
  have h4 := aQ_e.mp h3.1
  have h5 := aQ_e.mp h3.2
  exact ⟨byQ_u hl (neQ.mp h.1) ho, byQ_u hl (neQ.mp h4.2) (ntQ.mp h4.1), ⟨_, byQ_u (j := 2) hl rfl (ntQ.mp h5.1), niQ_e h5.2⟩, neQ.mp h2.1⟩
noncomputable def ccQ (c : _root_.Jvm.ClassFile.Cond) : Nat := match c with
  | .eq => 0
  | .ne => 1
  | .lt => 2
  | .ge => 3
  | .gt => 4
  | .le => 5
noncomputable def atQ (c : ArrayType) : Nat := match c with
  | .boolean => 4
  | .char => 5
  | .float => 6
  | .double => 7
  | .byte => 8
  | .short => 9
  | .int => 10
  | .long => 11
noncomputable def chkQ (i : Instr) (len : Nat) (l : List UInt8) : Bool := match i with
  | .aaload => c0Q l len 50
  | .aastore => c0Q l len 83
  | .aconst_null => c0Q l len 1
  | .areturn => c0Q l len 176
  | .arraylength => c0Q l len 190
  | .baload => c0Q l len 51
  | .bastore => c0Q l len 84
  | .dup => c0Q l len 89
  | .dup2 => c0Q l len 92
  | .i2b => c0Q l len 145
  | .i2c => c0Q l len 146
  | .i2l => c0Q l len 133
  | .iadd => c0Q l len 96
  | .iaload => c0Q l len 46
  | .iand => c0Q l len 126
  | .iastore => c0Q l len 79
  | .idiv => c0Q l len 108
  | .imul => c0Q l len 104
  | .ior => c0Q l len 128
  | .irem => c0Q l len 112
  | .ireturn => c0Q l len 172
  | .ishl => c0Q l len 120
  | .ishr => c0Q l len 122
  | .isub => c0Q l len 100
  | .iushr => c0Q l len 124
  | .ixor => c0Q l len 130
  | .l2i => c0Q l len 136
  | .ladd => c0Q l len 97
  | .laload => c0Q l len 47
  | .land => c0Q l len 127
  | .lastore => c0Q l len 80
  | .lcmp => c0Q l len 148
  | .ldiv => c0Q l len 109
  | .lmul => c0Q l len 105
  | .lor => c0Q l len 129
  | .lrem => c0Q l len 113
  | .lreturn => c0Q l len 173
  | .lshl => c0Q l len 121
  | .lsub => c0Q l len 101
  | .pop => c0Q l len 87
  | .return_ => c0Q l len 177
  | .aload_n k => c0Q l len (42 + k.val)
  | .iload_n k => c0Q l len (26 + k.val)
  | .istore_n k => c0Q l len (59 + k.val)
  | .lload_n k => c0Q l len (30 + k.val)
  | .lstore_n k => c0Q l len (63 + k.val)
  | .astore_n k => c0Q l len (75 + k.val)
  | .lconst k => c0Q l len (9 + k.val)
  | .iconst n => aQ (niQ n (((n + 3).toNat : Int) - 3)) (aQ (Nat.ble 2 (n + 3).toNat) (aQ (Nat.ble (n + 3).toNat 8) (c0Q l len (n + 3).toNat)))
  | .iload a => c1Q l len 21 a
  | .istore a => c1Q l len 54 a
  | .lload a => c1Q l len 22 a
  | .lstore a => c1Q l len 55 a
  | .ldc a => c1Q l len 18 a
  | .invokevirtual a => c2Q l len 182 a
  | .getfield a => c2Q l len 180 a
  | .putfield a => c2Q l len 181 a
  | .invokestatic a => c2Q l len 184 a
  | .invokespecial a => c2Q l len 183 a
  | .ldc2_w a => c2Q l len 20 a
  | .ldc_w a => c2Q l len 19 a
  | .new a => c2Q l len 187 a
  | .getstatic a => c2Q l len 178 a
  | .checkcast a => c2Q l len 192 a
  | .anewarray a => c2Q l len 189 a
  | .bipush a => c3Q l len 16 a
  | .sipush a => c4Q l len 17 a
  | .goto a => c4Q l len 167 a
  | .ifnull a => c4Q l len 198 a
  | .ifnonnull a => c4Q l len 199 a
  | .ifCond d a => c4Q l len (153 + ccQ d) a
  | .if_icmp d a => c4Q l len (159 + ccQ d) a
  | .iinc a d => c5Q l len 132 a d
  | .newarray t => c1Q l len 188 (atQ t)
  | _ => false
set_option maxRecDepth 16384 in
theorem chkQ_ok {i : Instr} (hl : ∀ j, l[j]? = B.data.toList[p + j]?) (h : chkQ i len l = true) : decode B p = .ok (i, len) := by
  cases i with
  | aaload => have e := c0Q_e hl (by decide) h; exact zfin (zd50 e.1) e.2
  | aastore => have e := c0Q_e hl (by decide) h; exact zfin (zd83 e.1) e.2
  | aconst_null => have e := c0Q_e hl (by decide) h; exact zfin (zd1 e.1) e.2
  | areturn => have e := c0Q_e hl (by decide) h; exact zfin (zd176 e.1) e.2
  | arraylength => have e := c0Q_e hl (by decide) h; exact zfin (zd190 e.1) e.2
  | baload => have e := c0Q_e hl (by decide) h; exact zfin (zd51 e.1) e.2
  | bastore => have e := c0Q_e hl (by decide) h; exact zfin (zd84 e.1) e.2
  | dup => have e := c0Q_e hl (by decide) h; exact zfin (zd89 e.1) e.2
  | dup2 => have e := c0Q_e hl (by decide) h; exact zfin (zd92 e.1) e.2
  | i2b => have e := c0Q_e hl (by decide) h; exact zfin (zd145 e.1) e.2
  | i2c => have e := c0Q_e hl (by decide) h; exact zfin (zd146 e.1) e.2
  | i2l => have e := c0Q_e hl (by decide) h; exact zfin (zd133 e.1) e.2
  | iadd => have e := c0Q_e hl (by decide) h; exact zfin (zd96 e.1) e.2
  | iaload => have e := c0Q_e hl (by decide) h; exact zfin (zd46 e.1) e.2
  | iand => have e := c0Q_e hl (by decide) h; exact zfin (zd126 e.1) e.2
  | iastore => have e := c0Q_e hl (by decide) h; exact zfin (zd79 e.1) e.2
  | idiv => have e := c0Q_e hl (by decide) h; exact zfin (zd108 e.1) e.2
  | imul => have e := c0Q_e hl (by decide) h; exact zfin (zd104 e.1) e.2
  | ior => have e := c0Q_e hl (by decide) h; exact zfin (zd128 e.1) e.2
  | irem => have e := c0Q_e hl (by decide) h; exact zfin (zd112 e.1) e.2
  | ireturn => have e := c0Q_e hl (by decide) h; exact zfin (zd172 e.1) e.2
  | ishl => have e := c0Q_e hl (by decide) h; exact zfin (zd120 e.1) e.2
  | ishr => have e := c0Q_e hl (by decide) h; exact zfin (zd122 e.1) e.2
  | isub => have e := c0Q_e hl (by decide) h; exact zfin (zd100 e.1) e.2
  | iushr => have e := c0Q_e hl (by decide) h; exact zfin (zd124 e.1) e.2
  | ixor => have e := c0Q_e hl (by decide) h; exact zfin (zd130 e.1) e.2
  | l2i => have e := c0Q_e hl (by decide) h; exact zfin (zd136 e.1) e.2
  | ladd => have e := c0Q_e hl (by decide) h; exact zfin (zd97 e.1) e.2
  | laload => have e := c0Q_e hl (by decide) h; exact zfin (zd47 e.1) e.2
  | land => have e := c0Q_e hl (by decide) h; exact zfin (zd127 e.1) e.2
  | lastore => have e := c0Q_e hl (by decide) h; exact zfin (zd80 e.1) e.2
  | lcmp => have e := c0Q_e hl (by decide) h; exact zfin (zd148 e.1) e.2
  | ldiv => have e := c0Q_e hl (by decide) h; exact zfin (zd109 e.1) e.2
  | lmul => have e := c0Q_e hl (by decide) h; exact zfin (zd105 e.1) e.2
  | lor => have e := c0Q_e hl (by decide) h; exact zfin (zd129 e.1) e.2
  | lrem => have e := c0Q_e hl (by decide) h; exact zfin (zd113 e.1) e.2
  | lreturn => have e := c0Q_e hl (by decide) h; exact zfin (zd173 e.1) e.2
  | lshl => have e := c0Q_e hl (by decide) h; exact zfin (zd121 e.1) e.2
  | lsub => have e := c0Q_e hl (by decide) h; exact zfin (zd101 e.1) e.2
  | pop => have e := c0Q_e hl (by decide) h; exact zfin (zd87 e.1) e.2
  | return_ => have e := c0Q_e hl (by decide) h; exact zfin (zd177 e.1) e.2
  | aload_n k =>
    obtain ⟨k, hk⟩ := k
    have hk2 : k = 0 ∨ k = 1 ∨ k = 2 ∨ k = 3 := by omega
    rcases hk2 with rfl | rfl | rfl | rfl
    · have e := c0Q_e hl (by decide) (op := 42) h; exact zfin (zd42 e.1) e.2
    · have e := c0Q_e hl (by decide) (op := 43) h; exact zfin (zd43 e.1) e.2
    · have e := c0Q_e hl (by decide) (op := 44) h; exact zfin (zd44 e.1) e.2
    · have e := c0Q_e hl (by decide) (op := 45) h; exact zfin (zd45 e.1) e.2
  | iload_n k =>
    obtain ⟨k, hk⟩ := k
    have hk2 : k = 0 ∨ k = 1 ∨ k = 2 ∨ k = 3 := by omega
    rcases hk2 with rfl | rfl | rfl | rfl
    · have e := c0Q_e hl (by decide) (op := 26) h; exact zfin (zd26 e.1) e.2
    · have e := c0Q_e hl (by decide) (op := 27) h; exact zfin (zd27 e.1) e.2
    · have e := c0Q_e hl (by decide) (op := 28) h; exact zfin (zd28 e.1) e.2
    · have e := c0Q_e hl (by decide) (op := 29) h; exact zfin (zd29 e.1) e.2
  | istore_n k =>
    obtain ⟨k, hk⟩ := k
    have hk2 : k = 0 ∨ k = 1 ∨ k = 2 ∨ k = 3 := by omega
    rcases hk2 with rfl | rfl | rfl | rfl
    · have e := c0Q_e hl (by decide) (op := 59) h; exact zfin (zd59 e.1) e.2
    · have e := c0Q_e hl (by decide) (op := 60) h; exact zfin (zd60 e.1) e.2
    · have e := c0Q_e hl (by decide) (op := 61) h; exact zfin (zd61 e.1) e.2
    · have e := c0Q_e hl (by decide) (op := 62) h; exact zfin (zd62 e.1) e.2
  | lload_n k =>
    obtain ⟨k, hk⟩ := k
    have hk2 : k = 0 ∨ k = 1 ∨ k = 2 ∨ k = 3 := by omega
    rcases hk2 with rfl | rfl | rfl | rfl
    · have e := c0Q_e hl (by decide) (op := 30) h; exact zfin (zd30 e.1) e.2
    · have e := c0Q_e hl (by decide) (op := 31) h; exact zfin (zd31 e.1) e.2
    · have e := c0Q_e hl (by decide) (op := 32) h; exact zfin (zd32 e.1) e.2
    · have e := c0Q_e hl (by decide) (op := 33) h; exact zfin (zd33 e.1) e.2
  | lstore_n k =>
    obtain ⟨k, hk⟩ := k
    have hk2 : k = 0 ∨ k = 1 ∨ k = 2 ∨ k = 3 := by omega
    rcases hk2 with rfl | rfl | rfl | rfl
    · have e := c0Q_e hl (by decide) (op := 63) h; exact zfin (zd63 e.1) e.2
    · have e := c0Q_e hl (by decide) (op := 64) h; exact zfin (zd64 e.1) e.2
    · have e := c0Q_e hl (by decide) (op := 65) h; exact zfin (zd65 e.1) e.2
    · have e := c0Q_e hl (by decide) (op := 66) h; exact zfin (zd66 e.1) e.2
  | astore_n k =>
    obtain ⟨k, hk⟩ := k
    have hk2 : k = 0 ∨ k = 1 ∨ k = 2 ∨ k = 3 := by omega
    rcases hk2 with rfl | rfl | rfl | rfl
    · have e := c0Q_e hl (by decide) (op := 75) h; exact zfin (zd75 e.1) e.2
    · have e := c0Q_e hl (by decide) (op := 76) h; exact zfin (zd76 e.1) e.2
    · have e := c0Q_e hl (by decide) (op := 77) h; exact zfin (zd77 e.1) e.2
    · have e := c0Q_e hl (by decide) (op := 78) h; exact zfin (zd78 e.1) e.2
  | lconst k =>
    obtain ⟨k, hk⟩ := k
    have hk2 : k = 0 ∨ k = 1 := by omega
    rcases hk2 with rfl | rfl
    · have e := c0Q_e hl (by decide) (op := 9) h; exact zfin (zd9 e.1) e.2
    · have e := c0Q_e hl (by decide) (op := 10) h; exact zfin (zd10 e.1) e.2
  | iconst n =>
    have h1 := aQ_e.mp h
    have h2 := aQ_e.mp h1.2
    have h3 := aQ_e.mp h2.2
    have k1 := niQ_e h1.1
    have k2 : 2 ≤ (n + 3).toNat := by have := h2.1; rwa [Nat.ble_eq] at this
    have k3 : (n + 3).toNat ≤ 8 := by have := h3.1; rwa [Nat.ble_eq] at this
    have h4 := h3.2
    have k4 : n = -1 ∨ n = 0 ∨ n = 1 ∨ n = 2 ∨ n = 3 ∨ n = 4 ∨ n = 5 := by omega
    rcases k4 with rfl | rfl | rfl | rfl | rfl | rfl | rfl
    · have e := c0Q_e hl (by decide) (op := 2) h4; exact zfin (zd2 e.1) e.2
    · have e := c0Q_e hl (by decide) (op := 3) h4; exact zfin (zd3 e.1) e.2
    · have e := c0Q_e hl (by decide) (op := 4) h4; exact zfin (zd4 e.1) e.2
    · have e := c0Q_e hl (by decide) (op := 5) h4; exact zfin (zd5 e.1) e.2
    · have e := c0Q_e hl (by decide) (op := 6) h4; exact zfin (zd6 e.1) e.2
    · have e := c0Q_e hl (by decide) (op := 7) h4; exact zfin (zd7 e.1) e.2
    · have e := c0Q_e hl (by decide) (op := 8) h4; exact zfin (zd8 e.1) e.2
  | iload a => have e := c1Q_e hl (by decide) h; exact zfin (zd21 e.1 e.2.1) e.2.2
  | istore a => have e := c1Q_e hl (by decide) h; exact zfin (zd54 e.1 e.2.1) e.2.2
  | lload a => have e := c1Q_e hl (by decide) h; exact zfin (zd22 e.1 e.2.1) e.2.2
  | lstore a => have e := c1Q_e hl (by decide) h; exact zfin (zd55 e.1 e.2.1) e.2.2
  | ldc a => have e := c1Q_e hl (by decide) h; exact zfin (zd18 e.1 e.2.1) e.2.2
  | invokevirtual a => have e := c2Q_e hl (by decide) h; exact zfin (zd182 e.1 e.2.1) e.2.2
  | getfield a => have e := c2Q_e hl (by decide) h; exact zfin (zd180 e.1 e.2.1) e.2.2
  | putfield a => have e := c2Q_e hl (by decide) h; exact zfin (zd181 e.1 e.2.1) e.2.2
  | invokestatic a => have e := c2Q_e hl (by decide) h; exact zfin (zd184 e.1 e.2.1) e.2.2
  | invokespecial a => have e := c2Q_e hl (by decide) h; exact zfin (zd183 e.1 e.2.1) e.2.2
  | ldc2_w a => have e := c2Q_e hl (by decide) h; exact zfin (zd20 e.1 e.2.1) e.2.2
  | ldc_w a => have e := c2Q_e hl (by decide) h; exact zfin (zd19 e.1 e.2.1) e.2.2
  | new a => have e := c2Q_e hl (by decide) h; exact zfin (zd187 e.1 e.2.1) e.2.2
  | getstatic a => have e := c2Q_e hl (by decide) h; exact zfin (zd178 e.1 e.2.1) e.2.2
  | checkcast a => have e := c2Q_e hl (by decide) h; exact zfin (zd192 e.1 e.2.1) e.2.2
  | anewarray a => have e := c2Q_e hl (by decide) h; exact zfin (zd189 e.1 e.2.1) e.2.2
  | bipush a => obtain ⟨e1, ⟨x, e2, rfl⟩, e3⟩ := c3Q_e hl (by decide) h; exact zfin (zd16 e1 e2) e3
  | sipush a => obtain ⟨e1, ⟨x, e2, rfl⟩, e3⟩ := c4Q_e hl (by decide) h; exact zfin (zd17 e1 e2) e3
  | goto a => obtain ⟨e1, ⟨x, e2, rfl⟩, e3⟩ := c4Q_e hl (by decide) h; exact zfin (zd167 e1 e2) e3
  | ifnull a => obtain ⟨e1, ⟨x, e2, rfl⟩, e3⟩ := c4Q_e hl (by decide) h; exact zfin (zd198 e1 e2) e3
  | ifnonnull a => obtain ⟨e1, ⟨x, e2, rfl⟩, e3⟩ := c4Q_e hl (by decide) h; exact zfin (zd199 e1 e2) e3
  | ifCond d a =>
    cases d with
    | eq => obtain ⟨e1, ⟨x, e2, rfl⟩, e3⟩ := c4Q_e hl (by decide) (op := 153) h; exact zfin (zd153 e1 e2) e3
    | ne => obtain ⟨e1, ⟨x, e2, rfl⟩, e3⟩ := c4Q_e hl (by decide) (op := 154) h; exact zfin (zd154 e1 e2) e3
    | lt => obtain ⟨e1, ⟨x, e2, rfl⟩, e3⟩ := c4Q_e hl (by decide) (op := 155) h; exact zfin (zd155 e1 e2) e3
    | ge => obtain ⟨e1, ⟨x, e2, rfl⟩, e3⟩ := c4Q_e hl (by decide) (op := 156) h; exact zfin (zd156 e1 e2) e3
    | gt => obtain ⟨e1, ⟨x, e2, rfl⟩, e3⟩ := c4Q_e hl (by decide) (op := 157) h; exact zfin (zd157 e1 e2) e3
    | le => obtain ⟨e1, ⟨x, e2, rfl⟩, e3⟩ := c4Q_e hl (by decide) (op := 158) h; exact zfin (zd158 e1 e2) e3
  | if_icmp d a =>
    cases d with
    | eq => obtain ⟨e1, ⟨x, e2, rfl⟩, e3⟩ := c4Q_e hl (by decide) (op := 159) h; exact zfin (zd159 e1 e2) e3
    | ne => obtain ⟨e1, ⟨x, e2, rfl⟩, e3⟩ := c4Q_e hl (by decide) (op := 160) h; exact zfin (zd160 e1 e2) e3
    | lt => obtain ⟨e1, ⟨x, e2, rfl⟩, e3⟩ := c4Q_e hl (by decide) (op := 161) h; exact zfin (zd161 e1 e2) e3
    | ge => obtain ⟨e1, ⟨x, e2, rfl⟩, e3⟩ := c4Q_e hl (by decide) (op := 162) h; exact zfin (zd162 e1 e2) e3
    | gt => obtain ⟨e1, ⟨x, e2, rfl⟩, e3⟩ := c4Q_e hl (by decide) (op := 163) h; exact zfin (zd163 e1 e2) e3
    | le => obtain ⟨e1, ⟨x, e2, rfl⟩, e3⟩ := c4Q_e hl (by decide) (op := 164) h; exact zfin (zd164 e1 e2) e3
  | iinc a d => obtain ⟨e1, e2, ⟨x, e3, rfl⟩, e4⟩ := c5Q_e hl (by decide) h; exact zfin (zd132 e1 e2 e3) e4
  | newarray t =>
    cases t with
    | boolean => have e := c1Q_e hl (by decide) (a := 4) h; exact zfin (zd188_4 e.1 e.2.1) e.2.2
    | char => have e := c1Q_e hl (by decide) (a := 5) h; exact zfin (zd188_5 e.1 e.2.1) e.2.2
    | float => have e := c1Q_e hl (by decide) (a := 6) h; exact zfin (zd188_6 e.1 e.2.1) e.2.2
    | double => have e := c1Q_e hl (by decide) (a := 7) h; exact zfin (zd188_7 e.1 e.2.1) e.2.2
    | byte => have e := c1Q_e hl (by decide) (a := 8) h; exact zfin (zd188_8 e.1 e.2.1) e.2.2
    | short => have e := c1Q_e hl (by decide) (a := 9) h; exact zfin (zd188_9 e.1 e.2.1) e.2.2
    | int => have e := c1Q_e hl (by decide) (a := 10) h; exact zfin (zd188_10 e.1 e.2.1) e.2.2
    | long => have e := c1Q_e hl (by decide) (a := 11) h; exact zfin (zd188_11 e.1 e.2.1) e.2.2
  | _ => exact Bool.noConfusion h
end CQ
noncomputable def zokQ (y : MethodName) (bs : ByteArray) : Nat → List UInt8 → List (Option zEn) → List Nat → Bool
  | _, _, [], _ => true
  | n, l, none :: cd, hs => zokQ y bs (n + 1) l.tail cd hs
  | n, l, some q :: cd, hs => (chkQ q.1 q.2.1 l || decide (decode bs n = .ok (q.1, q.2.1))) && ((zlen q.1 == 0 || q.2.1 == zlen q.1) && (match zneed y n q with
    | some ws => (match zpos ws hs with
      | some hs2 => zokQ y bs (n + 1) l.tail cd hs2
      | none => false)
    | none => false))
theorem zokQ_h {y : MethodName} {bs : ByteArray} : ∀ {cd : List (Option zEn)} {n : Nat} {l : List UInt8} {hs : List Nat}, (∀ j, l[j]? = bs.data.toList[n + j]?) → zokQ y bs n l cd hs = true → zokH y bs n cd hs = true
  | [], _, _, _, _, _ => rfl
  | none :: cd, n, l, hs, hl, h => zokQ_h (cd := cd) (n := n + 1) (l := l.tail) (fun j => by rw [List.getElem?_tail, hl, Nat.add_assoc, Nat.add_comm 1 j]) h
  | some q :: cd, n, l, hs, hl, h => by
    have ht : ∀ j, l.tail[j]? = bs.data.toList[n + 1 + j]? := fun j => by rw [List.getElem?_tail, hl, Nat.add_assoc, Nat.add_comm 1 j]
    unfold zokQ at h
    unfold zokH
    rw [Bool.and_eq_true, Bool.and_eq_true] at h
    obtain ⟨h1, h2, h3⟩ := h
    have hd : decode bs n = .ok (q.1, q.2.1) := by
      rw [Bool.or_eq_true] at h1
      rcases h1 with h1 | h1
      · exact chkQ_ok hl h1
      · exact decide_eq_true_eq.mp h1
    rw [decide_eq_true hd, h2]
    split at h3
    · next ws hw =>
      split at h3
      · next hs2 hp =>
        have := zokQ_h (cd := cd) ht h3
        simp only [hw, hp, this, Bool.and_self]
      · cases h3
    · cases h3
theorem zokQ_n {y : MethodName} {bs : ByteArray} {n : Nat} {cd : List (Option zEn)} {hs : List Nat} (h : zokQ y bs n (bs.data.toList.drop n) cd hs = true) : zokC y bs n cd = true := zokH_ok (zokQ_h (fun j => List.getElem?_drop) h)
theorem zokQ_0 {y : MethodName} {bs : ByteArray} {cd : List (Option zEn)} {hs : List Nat} (h : zokQ y bs 0 bs.data.toList cd hs = true) : zokC y bs 0 cd = true := zokH_ok (zokQ_h (fun j => by rw [Nat.zero_add]) h)
