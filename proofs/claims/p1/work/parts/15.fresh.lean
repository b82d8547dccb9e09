/-! p1: the heap behind the two constructors, closed. -/
def zob (c : zCl) : Option (Nat × List Value) := match c with
  | .inr x => some x
  | .inl _ => none
theorem zob_eq {c : zCl} {x : Nat × List Value} (h : zob c = some x) : c = .inr x := by
  cases c with
  | inl y => cases h
  | inr y => cases h; rfl
def zai (c : zCl) : Option (Nat × Nat) := match c with
  | .inl (t, n, .inl _) => some (t, n)
  | _ => none
def zaf (c : zCl) : Nat → Int32 := match c with
  | .inl (_, _, .inl f) => f
  | _ => fun _ => 0
theorem zai_eq {c : zCl} {t n : Nat} (h : zai c = some (t, n)) : c = .inl (t, n, .inl (zaf c)) := by
  cases c with
  | inr y => cases h
  | inl y =>
    obtain ⟨t2, n2, g⟩ := y
    cases g with
    | inl g => cases h; rfl
    | inr g => cases h
def zpre : Option (zFr × zHp) := zstN (zcall zts zms 1000 20) 4 ret zcL 10 (0, [(0, .ref zSC)], []) zh0
def hpC : zHp := match zpre with
  | some x => x.2
  | none => zh0
theorem zpre_fr : zpre.map (fun x => x.1) = some (18, [(3, .int 0), (2, .ref 70), (1, .ref 0), (0, .ref 1000)], []) := by decide +kernel
theorem zpre_eq : zpre = some ((18, [(3, .int 0), (2, .ref 70), (1, .ref 0), (0, .ref 1000)], []), hpC) := by
  have h := zpre_fr
  unfold hpC
  cases hz : zpre with
  | none => rw [hz] at h; cases h
  | some x =>
    rw [hz] at h
    have h2 : x.1 = (18, [(3, .int 0), (2, .ref 70), (1, .ref 0), (0, .ref 1000)], []) := Option.some.inj h
    show some x = some (_, x.2)
    rw [← h2]
theorem hpC_n : hpC.1 = 88 := by decide +kernel
def zhpo (x : Option zRe) : zHp := match x with
  | some r => r.2
  | none => zh0
theorem zcl {f d k : Nat} {as : List Value} {hp : zHp} {v : Option Value} (h : (zcall zts zms f d k as hp).map (fun r => r.1) = some v) : zCan d k as hp (v, zhpo (zcall zts zms f d k as hp)) := by
  cases hz : zcall zts zms f d k as hp with
  | none => rw [hz] at h; cases h
  | some x =>
    rw [hz] at h
    have h2 : x.1 = v := Option.some.inj h
    refine zCan_of (f := f) ?_
    rw [hz, ← h2]
    rfl
theorem zno {P : Prop} (h : False) : P := h.elim
theorem zI0 : (0 : Int32).toInt = 0 := by decide
theorem zI1 : (1 : Int32).toInt = 1 := by decide
theorem zI2 : (2 : Int32).toInt = 2 := by decide
theorem zI3 : (3 : Int32).toInt = 3 := by decide
theorem zI4 : (4 : Int32).toInt = 4 := by decide
theorem zI5 : (5 : Int32).toInt = 5 := by decide
theorem zI6 : (6 : Int32).toInt = 6 := by decide
theorem zI7 : (7 : Int32).toInt = 7 := by decide
theorem zI8 : (8 : Int32).toInt = 8 := by decide
theorem zI9 : (9 : Int32).toInt = 9 := by decide
theorem zI10 : (10 : Int32).toInt = 10 := by decide
theorem zI11 : (11 : Int32).toInt = 11 := by decide
theorem zL0 : (0 : Int64).toInt = 0 := by decide
theorem zL3 : (3 : Int64).toInt = 3 := by decide
theorem zlgL (x y : Int64) : (lg_cmp x y < 0) ↔ x.toInt < y.toInt := by
  have h := lg_cmp_ge x y
  rw [Int64.le_iff_toInt_le] at h
  rw [← Int32.not_le, h]
  omega
theorem zlgG (x y : Int64) : (0 < lg_cmp x y) ↔ y.toInt < x.toInt := by
  unfold lg_cmp
  by_cases h1 : x > y
  · rw [if_pos h1]
    have h2 : y < x := h1
    rw [Int64.lt_iff_toInt_lt] at h2
    exact ⟨fun _ => h2, fun _ => by decide⟩
  · rw [if_neg h1]
    have h2 : ¬ y < x := h1
    rw [Int64.lt_iff_toInt_lt] at h2
    by_cases h3 : x = y
    · rw [if_pos h3]
      exact ⟨fun h => absurd h (by decide), fun h => absurd h h2⟩
    · rw [if_neg h3]
      exact ⟨fun h => absurd h (by decide), fun h => absurd h h2⟩
theorem zTab_out {df lo hi : Int} {offs : Array Int} {pc t : Nat} {lv : List (Nat × Value)} {rest : List Value} {x : Int32} {hp : zHp} (h : x.toInt < lo ∨ hi < x.toInt) (ht : (pc : Int) + df = (t : Int)) : zTab df lo hi offs (pc, lv, .int x :: rest) hp = some (.inl ((t, lv, rest), hp)) := by
  unfold zTab zJmp zn
  dsimp only
  rw [if_pos h, ht]
  rfl
theorem zTab_in {df lo hi off : Int} {offs : Array Int} {pc t : Nat} {lv : List (Nat × Value)} {rest : List Value} {x : Int32} {hp : zHp} (h : ¬ (x.toInt < lo ∨ hi < x.toInt)) (ho : offs[(x.toInt - lo).toNat]? = some off) (ht : (pc : Int) + off = (t : Int)) : zTab df lo hi offs (pc, lv, .int x :: rest) hp = some (.inl ((t, lv, rest), hp)) := by
  unfold zTab zJmp zn
  dsimp only
  rw [if_neg h, ho]
  dsimp only
  rw [ht]
  rfl
theorem zf128_0 : zg zc128 0 = some (.aload_n 0, 1, 0, 0, .null) := by decide +kernel
theorem zf128_1 : zg zc128 1 = some (.getfield 37, 3, 10, 5, .null) := by decide +kernel
theorem hl0 : (0 : Nat) < hpC.1 := by decide +kernel
theorem hc0 : hpC.2 0 = .inr (10, [.ref 1, .int 0, .ref 2, .ref 4, .ref 6, .ref 9, .ref 11, .ref 13, .int 0, .ref 14, .ref 36, .ref 41, .ref 42, .ref 43, .ref 44, .ref 50, .ref 67]) := zob_eq (by decide +kernel)
theorem zf128_4 : zg zc128 4 = some (.iload_n 1, 1, 0, 0, .null) := by decide +kernel
theorem zf128_5 : zg zc128 5 = some (.invokevirtual 141, 3, 83, 0, .null) := by decide +kernel
theorem zf83_0 : zg zc83 0 = some (.iload_n 1, 1, 0, 0, .null) := by decide +kernel
theorem zf83_1 : zg zc83 1 = some (.ifCond .lt 15, 3, 16, 0, .null) := by decide +kernel
theorem zf83_16 : zg zc83 16 = some (.iconst 0, 1, 0, 0, .null) := by decide +kernel
theorem zf83_17 : zg zc83 17 = some (.ireturn, 1, 0, 0, .null) := by decide +kernel
theorem zf83_4 : zg zc83 4 = some (.iload_n 1, 1, 0, 0, .null) := by decide +kernel
theorem zf83_5 : zg zc83 5 = some (.aload_n 0, 1, 0, 0, .null) := by decide +kernel
theorem zf83_6 : zg zc83 6 = some (.invokevirtual 27, 3, 79, 0, .null) := by decide +kernel
theorem zf79_0 : zg zc79 0 = some (.aload_n 0, 1, 0, 0, .null) := by decide +kernel
theorem zf79_1 : zg zc79 1 = some (.getfield 11, 3, 8, 0, .null) := by decide +kernel
theorem hl9 : (9 : Nat) < hpC.1 := by decide +kernel
theorem hc9 : hpC.2 9 = .inr (8, [.ref 10]) := zob_eq (by decide +kernel)
theorem zf79_4 : zg zc79 4 = some (.iconst 2, 1, 0, 0, .null) := by decide +kernel
theorem zf79_5 : zg zc79 5 = some (.iaload, 1, 0, 0, .null) := by decide +kernel
theorem hl10 : (10 : Nat) < hpC.1 := by decide +kernel
theorem hc10 : hpC.2 10 = .inl (0, 114, .inl (zaf (hpC.2 10))) := zai_eq (by decide +kernel)
theorem ha10_2 : zaf (hpC.2 10) (2 : Int32).toNatClampNeg = 0 := by decide +kernel
theorem zf79_6 : zg zc79 6 = some (.ireturn, 1, 0, 0, .null) := by decide +kernel
set_option maxRecDepth 20000 in
theorem hgm79 : zg zms 79 = some (1, (some .int), zc79) := rfl
theorem har79 : zar 79 = (0, 8) := by decide +kernel
theorem hk9 : zKd 9 hpC = some 8 := by decide +kernel
theorem zf83_9 : zg zc83 9 = some (.if_icmp .ge 7, 3, 16, 0, .null) := by decide +kernel
set_option maxRecDepth 20000 in
theorem hgm83 : zg zms 83 = some (2, (some .boolean), zc83) := rfl
theorem har83 : zar 83 = (1, 8) := by decide +kernel
theorem zf128_8 : zg zc128 8 = some (.ifCond .eq 13, 3, 21, 0, .null) := by decide +kernel
theorem zf128_21 : zg zc128 21 = some (.iconst (-1), 1, 0, 0, .null) := by decide +kernel
theorem zf128_22 : zg zc128 22 = some (.ireturn, 1, 0, 0, .null) := by decide +kernel
set_option maxRecDepth 20000 in
theorem hgm128 : zg zms 128 = some (3, (some .int), zc128) := rfl
theorem zf217_0 : zg zc217 0 = some (.aload_n 0, 1, 0, 0, .null) := by decide +kernel
theorem zf217_1 : zg zc217 1 = some (.iload_n 1, 1, 0, 0, .null) := by decide +kernel
theorem zf217_2 : zg zc217 2 = some (.invokevirtual 301, 3, 206, 0, .null) := by decide +kernel
theorem zf206_0 : zg zc206 0 = some (.iload_n 1, 1, 0, 0, .null) := by decide +kernel
theorem zf206_1 : zg zc206 1 = some (.ifCond .lt 17, 3, 18, 0, .null) := by decide +kernel
theorem zf206_18 : zg zc206 18 = some (.iconst 0, 1, 0, 0, .null) := by decide +kernel
theorem zf206_19 : zg zc206 19 = some (.ireturn, 1, 0, 0, .null) := by decide +kernel
theorem zf206_4 : zg zc206 4 = some (.iload_n 1, 1, 0, 0, .null) := by decide +kernel
theorem zf206_5 : zg zc206 5 = some (.aload_n 0, 1, 0, 0, .null) := by decide +kernel
theorem zf206_6 : zg zc206 6 = some (.getfield 39, 3, 11, 22, .null) := by decide +kernel
theorem hl70 : (70 : Nat) < hpC.1 := by decide +kernel
theorem hc70 : hpC.2 70 = .inr (11, [.ref 71, .int 0, .int 0, .ref 72, .ref 73, .ref 74, .ref 75, .ref 76, .int 0, .int 0, .int 0, .int 0, .int 0, .int 0, .int 0, .ref 77, .int 0, .int 0, .int 0, .ref 78, .int 0, .ref 79, .ref 80, .int 0, .ref 81, .int 0, .int 0, .int 0, .ref 82, .ref 83, .int 0, .ref 84, .int 0, .int 0, .int 0, .long 0, .ref 85, .ref 86, .ref 87]) := zob_eq (by decide +kernel)
theorem zf206_9 : zg zc206 9 = some (.iconst 2, 1, 0, 0, .null) := by decide +kernel
theorem zf206_10 : zg zc206 10 = some (.iaload, 1, 0, 0, .null) := by decide +kernel
theorem hl80 : (80 : Nat) < hpC.1 := by decide +kernel
theorem hc80 : hpC.2 80 = .inl (0, 148, .inl (zaf (hpC.2 80))) := zai_eq (by decide +kernel)
theorem ha80_2 : zaf (hpC.2 80) (2 : Int32).toNatClampNeg = 0 := by decide +kernel
theorem zf206_11 : zg zc206 11 = some (.if_icmp .ge 7, 3, 18, 0, .null) := by decide +kernel
set_option maxRecDepth 20000 in
theorem hgm206 : zg zms 206 = some (2, (some .boolean), zc206) := rfl
theorem har206 : zar 206 = (1, 11) := by decide +kernel
theorem hk70 : zKd 70 hpC = some 11 := by decide +kernel
theorem zf217_5 : zg zc217 5 = some (.ifCond .eq 15, 3, 20, 0, .null) := by decide +kernel
theorem zf217_20 : zg zc217 20 = some (.iconst (-1), 1, 0, 0, .null) := by decide +kernel
theorem zf217_21 : zg zc217 21 = some (.ireturn, 1, 0, 0, .null) := by decide +kernel
set_option maxRecDepth 20000 in
theorem hgm217 : zg zms 217 = some (3, (some .int), zc217) := rfl
theorem zf129_0 : zg zc129 0 = some (.aload_n 0, 1, 0, 0, .null) := by decide +kernel
theorem zf129_1 : zg zc129 1 = some (.getfield 37, 3, 10, 5, .null) := by decide +kernel
theorem zf129_4 : zg zc129 4 = some (.iload_n 1, 1, 0, 0, .null) := by decide +kernel
theorem zf129_5 : zg zc129 5 = some (.invokevirtual 156, 3, 84, 0, .null) := by decide +kernel
theorem zf84_0 : zg zc84 0 = some (.iload_n 1, 1, 0, 0, .null) := by decide +kernel
theorem zf84_1 : zg zc84 1 = some (.ifCond .lt 15, 3, 16, 0, .null) := by decide +kernel
theorem zf84_16 : zg zc84 16 = some (.iconst 0, 1, 0, 0, .null) := by decide +kernel
theorem zf84_17 : zg zc84 17 = some (.ireturn, 1, 0, 0, .null) := by decide +kernel
theorem zf84_4 : zg zc84 4 = some (.iload_n 1, 1, 0, 0, .null) := by decide +kernel
theorem zf84_5 : zg zc84 5 = some (.aload_n 0, 1, 0, 0, .null) := by decide +kernel
theorem zf84_6 : zg zc84 6 = some (.invokevirtual 35, 3, 80, 0, .null) := by decide +kernel
theorem zf80_0 : zg zc80 0 = some (.aload_n 0, 1, 0, 0, .null) := by decide +kernel
theorem zf80_1 : zg zc80 1 = some (.getfield 11, 3, 8, 0, .null) := by decide +kernel
theorem zf80_4 : zg zc80 4 = some (.iconst 3, 1, 0, 0, .null) := by decide +kernel
theorem zf80_5 : zg zc80 5 = some (.iaload, 1, 0, 0, .null) := by decide +kernel
theorem ha10_3 : zaf (hpC.2 10) (3 : Int32).toNatClampNeg = 0 := by decide +kernel
theorem zf80_6 : zg zc80 6 = some (.ireturn, 1, 0, 0, .null) := by decide +kernel
set_option maxRecDepth 20000 in
theorem hgm80 : zg zms 80 = some (1, (some .int), zc80) := rfl
theorem har80 : zar 80 = (0, 8) := by decide +kernel
theorem zf84_9 : zg zc84 9 = some (.if_icmp .ge 7, 3, 16, 0, .null) := by decide +kernel
set_option maxRecDepth 20000 in
theorem hgm84 : zg zms 84 = some (2, (some .boolean), zc84) := rfl
theorem har84 : zar 84 = (1, 8) := by decide +kernel
theorem zf129_8 : zg zc129 8 = some (.ifCond .eq 12, 3, 20, 0, .null) := by decide +kernel
theorem zf129_20 : zg zc129 20 = some (.bipush (-2), 2, 0, 0, .null) := by decide +kernel
theorem zf129_22 : zg zc129 22 = some (.ireturn, 1, 0, 0, .null) := by decide +kernel
set_option maxRecDepth 20000 in
theorem hgm129 : zg zms 129 = some (3, (some .int), zc129) := rfl
theorem zf218_0 : zg zc218 0 = some (.aload_n 0, 1, 0, 0, .null) := by decide +kernel
theorem zf218_1 : zg zc218 1 = some (.iload_n 1, 1, 0, 0, .null) := by decide +kernel
theorem zf218_2 : zg zc218 2 = some (.invokevirtual 306, 3, 207, 0, .null) := by decide +kernel
theorem zf207_0 : zg zc207 0 = some (.iload_n 1, 1, 0, 0, .null) := by decide +kernel
theorem zf207_1 : zg zc207 1 = some (.ifCond .lt 17, 3, 18, 0, .null) := by decide +kernel
theorem zf207_18 : zg zc207 18 = some (.iconst 0, 1, 0, 0, .null) := by decide +kernel
theorem zf207_19 : zg zc207 19 = some (.ireturn, 1, 0, 0, .null) := by decide +kernel
theorem zf207_4 : zg zc207 4 = some (.iload_n 1, 1, 0, 0, .null) := by decide +kernel
theorem zf207_5 : zg zc207 5 = some (.aload_n 0, 1, 0, 0, .null) := by decide +kernel
theorem zf207_6 : zg zc207 6 = some (.getfield 39, 3, 11, 22, .null) := by decide +kernel
theorem zf207_9 : zg zc207 9 = some (.iconst 3, 1, 0, 0, .null) := by decide +kernel
theorem zf207_10 : zg zc207 10 = some (.iaload, 1, 0, 0, .null) := by decide +kernel
theorem ha80_3 : zaf (hpC.2 80) (3 : Int32).toNatClampNeg = 0 := by decide +kernel
theorem zf207_11 : zg zc207 11 = some (.if_icmp .ge 7, 3, 18, 0, .null) := by decide +kernel
set_option maxRecDepth 20000 in
theorem hgm207 : zg zms 207 = some (2, (some .boolean), zc207) := rfl
theorem har207 : zar 207 = (1, 11) := by decide +kernel
theorem zf218_5 : zg zc218 5 = some (.ifCond .eq 15, 3, 20, 0, .null) := by decide +kernel
theorem zf218_20 : zg zc218 20 = some (.bipush (-2), 2, 0, 0, .null) := by decide +kernel
theorem zf218_22 : zg zc218 22 = some (.ireturn, 1, 0, 0, .null) := by decide +kernel
set_option maxRecDepth 20000 in
theorem hgm218 : zg zms 218 = some (3, (some .int), zc218) := rfl
theorem zf130_0 : zg zc130 0 = some (.aload_n 0, 1, 0, 0, .null) := by decide +kernel
theorem zf130_1 : zg zc130 1 = some (.getfield 37, 3, 10, 5, .null) := by decide +kernel
theorem zf130_4 : zg zc130 4 = some (.iload_n 1, 1, 0, 0, .null) := by decide +kernel
theorem zf130_5 : zg zc130 5 = some (.iload_n 2, 1, 0, 0, .null) := by decide +kernel
theorem zf130_6 : zg zc130 6 = some (.invokevirtual 165, 3, 86, 0, .null) := by decide +kernel
theorem zf86_0 : zg zc86 0 = some (.aload_n 0, 1, 0, 0, .null) := by decide +kernel
theorem zf86_1 : zg zc86 1 = some (.iload_n 1, 1, 0, 0, .null) := by decide +kernel
theorem zf86_2 : zg zc86 2 = some (.invokevirtual 44, 3, 85, 0, .null) := by decide +kernel
theorem zf85_0 : zg zc85 0 = some (.iload_n 1, 1, 0, 0, .null) := by decide +kernel
theorem zf85_1 : zg zc85 1 = some (.ifCond .lt 15, 3, 16, 0, .null) := by decide +kernel
theorem zf85_16 : zg zc85 16 = some (.iconst 0, 1, 0, 0, .null) := by decide +kernel
theorem zf85_17 : zg zc85 17 = some (.ireturn, 1, 0, 0, .null) := by decide +kernel
theorem zf85_4 : zg zc85 4 = some (.iload_n 1, 1, 0, 0, .null) := by decide +kernel
theorem zf85_5 : zg zc85 5 = some (.aload_n 0, 1, 0, 0, .null) := by decide +kernel
theorem zf85_6 : zg zc85 6 = some (.invokevirtual 41, 3, 77, 0, .null) := by decide +kernel
theorem zf77_0 : zg zc77 0 = some (.aload_n 0, 1, 0, 0, .null) := by decide +kernel
theorem zf77_1 : zg zc77 1 = some (.getfield 11, 3, 8, 0, .null) := by decide +kernel
theorem zf77_4 : zg zc77 4 = some (.iconst 0, 1, 0, 0, .null) := by decide +kernel
theorem zf77_5 : zg zc77 5 = some (.iaload, 1, 0, 0, .null) := by decide +kernel
theorem ha10_0 : zaf (hpC.2 10) (0 : Int32).toNatClampNeg = 0 := by decide +kernel
theorem zf77_6 : zg zc77 6 = some (.ireturn, 1, 0, 0, .null) := by decide +kernel
set_option maxRecDepth 20000 in
theorem hgm77 : zg zms 77 = some (1, (some .int), zc77) := rfl
theorem har77 : zar 77 = (0, 8) := by decide +kernel
theorem zf85_9 : zg zc85 9 = some (.if_icmp .ge 7, 3, 16, 0, .null) := by decide +kernel
set_option maxRecDepth 20000 in
theorem hgm85 : zg zms 85 = some (2, (some .boolean), zc85) := rfl
theorem har85 : zar 85 = (1, 8) := by decide +kernel
theorem zf86_5 : zg zc86 5 = some (.ifCond .eq 20, 3, 25, 0, .null) := by decide +kernel
theorem zf86_25 : zg zc86 25 = some (.iconst 0, 1, 0, 0, .null) := by decide +kernel
theorem zf86_26 : zg zc86 26 = some (.ireturn, 1, 0, 0, .null) := by decide +kernel
set_option maxRecDepth 20000 in
theorem hgm86 : zg zms 86 = some (3, (some .boolean), zc86) := rfl
theorem har86 : zar 86 = (2, 8) := by decide +kernel
theorem zf130_9 : zg zc130 9 = some (.ifCond .eq 12, 3, 21, 0, .null) := by decide +kernel
theorem zf130_21 : zg zc130 21 = some (.iconst (-1), 1, 0, 0, .null) := by decide +kernel
theorem zf130_22 : zg zc130 22 = some (.ireturn, 1, 0, 0, .null) := by decide +kernel
set_option maxRecDepth 20000 in
theorem hgm130 : zg zms 130 = some (4, (some .int), zc130) := rfl
theorem zf219_0 : zg zc219 0 = some (.aload_n 0, 1, 0, 0, .null) := by decide +kernel
theorem zf219_1 : zg zc219 1 = some (.iload_n 1, 1, 0, 0, .null) := by decide +kernel
theorem zf219_2 : zg zc219 2 = some (.invokevirtual 314, 3, 205, 0, .null) := by decide +kernel
theorem zf205_0 : zg zc205 0 = some (.iload_n 1, 1, 0, 0, .null) := by decide +kernel
theorem zf205_1 : zg zc205 1 = some (.ifCond .lt 17, 3, 18, 0, .null) := by decide +kernel
theorem zf205_18 : zg zc205 18 = some (.iconst 0, 1, 0, 0, .null) := by decide +kernel
theorem zf205_19 : zg zc205 19 = some (.ireturn, 1, 0, 0, .null) := by decide +kernel
theorem zf205_4 : zg zc205 4 = some (.iload_n 1, 1, 0, 0, .null) := by decide +kernel
theorem zf205_5 : zg zc205 5 = some (.aload_n 0, 1, 0, 0, .null) := by decide +kernel
theorem zf205_6 : zg zc205 6 = some (.getfield 39, 3, 11, 22, .null) := by decide +kernel
theorem zf205_9 : zg zc205 9 = some (.iconst 0, 1, 0, 0, .null) := by decide +kernel
theorem zf205_10 : zg zc205 10 = some (.iaload, 1, 0, 0, .null) := by decide +kernel
theorem ha80_0 : zaf (hpC.2 80) (0 : Int32).toNatClampNeg = 0 := by decide +kernel
theorem zf205_11 : zg zc205 11 = some (.if_icmp .ge 7, 3, 18, 0, .null) := by decide +kernel
set_option maxRecDepth 20000 in
theorem hgm205 : zg zms 205 = some (2, (some .boolean), zc205) := rfl
theorem har205 : zar 205 = (1, 11) := by decide +kernel
theorem zf219_5 : zg zc219 5 = some (.ifCond .eq 26, 3, 31, 0, .null) := by decide +kernel
theorem zf219_31 : zg zc219 31 = some (.iconst (-1), 1, 0, 0, .null) := by decide +kernel
theorem zf219_32 : zg zc219 32 = some (.ireturn, 1, 0, 0, .null) := by decide +kernel
set_option maxRecDepth 20000 in
theorem hgm219 : zg zms 219 = some (4, (some .int), zc219) := rfl
theorem zf131_0 : zg zc131 0 = some (.aload_n 0, 1, 0, 0, .null) := by decide +kernel
theorem zf131_1 : zg zc131 1 = some (.getfield 37, 3, 10, 5, .null) := by decide +kernel
theorem zf131_4 : zg zc131 4 = some (.iload_n 1, 1, 0, 0, .null) := by decide +kernel
theorem zf131_5 : zg zc131 5 = some (.invokevirtual 141, 3, 83, 0, .null) := by decide +kernel
theorem zf131_8 : zg zc131 8 = some (.ifCond .eq 26, 3, 34, 0, .null) := by decide +kernel
theorem zf131_34 : zg zc131 34 = some (.iconst (-1), 1, 0, 0, .null) := by decide +kernel
theorem zf131_35 : zg zc131 35 = some (.ireturn, 1, 0, 0, .null) := by decide +kernel
set_option maxRecDepth 20000 in
theorem hgm131 : zg zms 131 = some (3, (some .int), zc131) := rfl
theorem zf226_0 : zg zc226 0 = some (.aload_n 0, 1, 0, 0, .null) := by decide +kernel
theorem zf226_1 : zg zc226 1 = some (.iload_n 1, 1, 0, 0, .null) := by decide +kernel
theorem zf226_2 : zg zc226 2 = some (.invokevirtual 301, 3, 206, 0, .null) := by decide +kernel
theorem zf226_5 : zg zc226 5 = some (.ifCond .eq 20, 3, 25, 0, .null) := by decide +kernel
theorem zf226_25 : zg zc226 25 = some (.iconst (-1), 1, 0, 0, .null) := by decide +kernel
theorem zf226_26 : zg zc226 26 = some (.ireturn, 1, 0, 0, .null) := by decide +kernel
set_option maxRecDepth 20000 in
theorem hgm226 : zg zms 226 = some (3, (some .int), zc226) := rfl
theorem zf132_0 : zg zc132 0 = some (.aload_n 0, 1, 0, 0, .null) := by decide +kernel
theorem zf132_1 : zg zc132 1 = some (.getfield 37, 3, 10, 5, .null) := by decide +kernel
theorem zf132_4 : zg zc132 4 = some (.iload_n 1, 1, 0, 0, .null) := by decide +kernel
theorem zf132_5 : zg zc132 5 = some (.invokevirtual 141, 3, 83, 0, .null) := by decide +kernel
theorem zf132_8 : zg zc132 8 = some (.ifCond .eq 14, 3, 22, 0, .null) := by decide +kernel
theorem zf132_22 : zg zc132 22 = some (.iconst (-1), 1, 0, 0, .null) := by decide +kernel
theorem zf132_23 : zg zc132 23 = some (.ireturn, 1, 0, 0, .null) := by decide +kernel
set_option maxRecDepth 20000 in
theorem hgm132 : zg zms 132 = some (2, (some .int), zc132) := rfl
theorem zf227_0 : zg zc227 0 = some (.aload_n 0, 1, 0, 0, .null) := by decide +kernel
theorem zf227_1 : zg zc227 1 = some (.iload_n 1, 1, 0, 0, .null) := by decide +kernel
theorem zf227_2 : zg zc227 2 = some (.invokevirtual 301, 3, 206, 0, .null) := by decide +kernel
theorem zf227_5 : zg zc227 5 = some (.ifCond .eq 11, 3, 16, 0, .null) := by decide +kernel
theorem zf227_16 : zg zc227 16 = some (.iconst (-1), 1, 0, 0, .null) := by decide +kernel
theorem zf227_17 : zg zc227 17 = some (.ireturn, 1, 0, 0, .null) := by decide +kernel
set_option maxRecDepth 20000 in
theorem hgm227 : zg zms 227 = some (2, (some .int), zc227) := rfl
theorem zf133_0 : zg zc133 0 = some (.aload_n 0, 1, 0, 0, .null) := by decide +kernel
theorem zf133_1 : zg zc133 1 = some (.getfield 37, 3, 10, 5, .null) := by decide +kernel
theorem zf133_4 : zg zc133 4 = some (.iload_n 1, 1, 0, 0, .null) := by decide +kernel
theorem zf133_5 : zg zc133 5 = some (.invokevirtual 156, 3, 84, 0, .null) := by decide +kernel
theorem zf133_8 : zg zc133 8 = some (.ifCond .eq 14, 3, 22, 0, .null) := by decide +kernel
theorem zf133_22 : zg zc133 22 = some (.iconst (-1), 1, 0, 0, .null) := by decide +kernel
theorem zf133_23 : zg zc133 23 = some (.ireturn, 1, 0, 0, .null) := by decide +kernel
set_option maxRecDepth 20000 in
theorem hgm133 : zg zms 133 = some (2, (some .int), zc133) := rfl
theorem zf228_0 : zg zc228 0 = some (.aload_n 0, 1, 0, 0, .null) := by decide +kernel
theorem zf228_1 : zg zc228 1 = some (.iload_n 1, 1, 0, 0, .null) := by decide +kernel
theorem zf228_2 : zg zc228 2 = some (.invokevirtual 306, 3, 207, 0, .null) := by decide +kernel
theorem zf228_5 : zg zc228 5 = some (.ifCond .eq 11, 3, 16, 0, .null) := by decide +kernel
theorem zf228_16 : zg zc228 16 = some (.iconst (-1), 1, 0, 0, .null) := by decide +kernel
theorem zf228_17 : zg zc228 17 = some (.ireturn, 1, 0, 0, .null) := by decide +kernel
set_option maxRecDepth 20000 in
theorem hgm228 : zg zms 228 = some (2, (some .int), zc228) := rfl
theorem zf134_0 : zg zc134 0 = some (.aload_n 0, 1, 0, 0, .null) := by decide +kernel
theorem zf134_1 : zg zc134 1 = some (.getfield 37, 3, 10, 5, .null) := by decide +kernel
theorem zf134_4 : zg zc134 4 = some (.iload_n 1, 1, 0, 0, .null) := by decide +kernel
theorem zf134_5 : zg zc134 5 = some (.iload_n 2, 1, 0, 0, .null) := by decide +kernel
theorem zf134_6 : zg zc134 6 = some (.invokevirtual 165, 3, 86, 0, .null) := by decide +kernel
theorem zf134_9 : zg zc134 9 = some (.ifCond .eq 15, 3, 24, 0, .null) := by decide +kernel
theorem zf134_24 : zg zc134 24 = some (.iconst 0, 1, 0, 0, .null) := by decide +kernel
theorem zf134_25 : zg zc134 25 = some (.ireturn, 1, 0, 0, .null) := by decide +kernel
set_option maxRecDepth 20000 in
theorem hgm134 : zg zms 134 = some (3, (some .boolean), zc134) := rfl
theorem zf230_0 : zg zc230 0 = some (.aload_n 0, 1, 0, 0, .null) := by decide +kernel
theorem zf230_1 : zg zc230 1 = some (.iload_n 1, 1, 0, 0, .null) := by decide +kernel
theorem zf230_2 : zg zc230 2 = some (.invokevirtual 314, 3, 205, 0, .null) := by decide +kernel
theorem zf230_5 : zg zc230 5 = some (.ifCond .eq 34, 3, 39, 0, .null) := by decide +kernel
theorem zf230_39 : zg zc230 39 = some (.iconst 0, 1, 0, 0, .null) := by decide +kernel
theorem zf230_40 : zg zc230 40 = some (.ireturn, 1, 0, 0, .null) := by decide +kernel
set_option maxRecDepth 20000 in
theorem hgm230 : zg zms 230 = some (3, (some .boolean), zc230) := rfl
theorem zf136_0 : zg zc136 0 = some (.aload_n 0, 1, 0, 0, .null) := by decide +kernel
theorem zf136_1 : zg zc136 1 = some (.getfield 37, 3, 10, 5, .null) := by decide +kernel
theorem zf136_4 : zg zc136 4 = some (.iload_n 1, 1, 0, 0, .null) := by decide +kernel
theorem zf136_5 : zg zc136 5 = some (.invokevirtual 141, 3, 83, 0, .null) := by decide +kernel
theorem zf136_8 : zg zc136 8 = some (.ifCond .eq 14, 3, 22, 0, .null) := by decide +kernel
theorem zf136_22 : zg zc136 22 = some (.iconst (-1), 1, 0, 0, .null) := by decide +kernel
theorem zf136_23 : zg zc136 23 = some (.ireturn, 1, 0, 0, .null) := by decide +kernel
set_option maxRecDepth 20000 in
theorem hgm136 : zg zms 136 = some (4, (some .int), zc136) := rfl
theorem zf232_0 : zg zc232 0 = some (.aload_n 0, 1, 0, 0, .null) := by decide +kernel
theorem zf232_1 : zg zc232 1 = some (.iload_n 1, 1, 0, 0, .null) := by decide +kernel
theorem zf232_2 : zg zc232 2 = some (.invokevirtual 301, 3, 206, 0, .null) := by decide +kernel
theorem zf232_5 : zg zc232 5 = some (.ifCond .eq 21, 3, 26, 0, .null) := by decide +kernel
theorem zf232_26 : zg zc232 26 = some (.iconst (-1), 1, 0, 0, .null) := by decide +kernel
theorem zf232_27 : zg zc232 27 = some (.ireturn, 1, 0, 0, .null) := by decide +kernel
set_option maxRecDepth 20000 in
theorem hgm232 : zg zms 232 = some (4, (some .int), zc232) := rfl
theorem zf139_0 : zg zc139 0 = some (.aload_n 0, 1, 0, 0, .null) := by decide +kernel
theorem zf139_1 : zg zc139 1 = some (.getfield 37, 3, 10, 5, .null) := by decide +kernel
theorem zf139_4 : zg zc139 4 = some (.invokevirtual 215, 3, 76, 0, .null) := by decide +kernel
theorem zf76_0 : zg zc76 0 = some (.aload_n 0, 1, 0, 0, .null) := by decide +kernel
theorem zf76_1 : zg zc76 1 = some (.invokevirtual 41, 3, 77, 0, .null) := by decide +kernel
theorem zf76_4 : zg zc76 4 = some (.ifCond .le 7, 3, 11, 0, .null) := by decide +kernel
theorem zf76_11 : zg zc76 11 = some (.iconst 0, 1, 0, 0, .null) := by decide +kernel
theorem zf76_12 : zg zc76 12 = some (.ireturn, 1, 0, 0, .null) := by decide +kernel
set_option maxRecDepth 20000 in
theorem hgm76 : zg zms 76 = some (1, (some .boolean), zc76) := rfl
theorem har76 : zar 76 = (0, 8) := by decide +kernel
theorem zf139_7 : zg zc139 7 = some (.ifCond .eq 37, 3, 44, 0, .null) := by decide +kernel
theorem zf139_44 : zg zc139 44 = some (.iconst (-1), 1, 0, 0, .null) := by decide +kernel
theorem zf139_45 : zg zc139 45 = some (.ireturn, 1, 0, 0, .null) := by decide +kernel
set_option maxRecDepth 20000 in
theorem hgm139 : zg zms 139 = some (5, (some .int), zc139) := rfl
theorem zf248_0 : zg zc248 0 = some (.aload_n 0, 1, 0, 0, .null) := by decide +kernel
theorem zf248_1 : zg zc248 1 = some (.invokevirtual 344, 3, 204, 0, .null) := by decide +kernel
theorem zf204_0 : zg zc204 0 = some (.aload_n 0, 1, 0, 0, .null) := by decide +kernel
theorem zf204_1 : zg zc204 1 = some (.getfield 39, 3, 11, 22, .null) := by decide +kernel
theorem zf204_4 : zg zc204 4 = some (.iconst 0, 1, 0, 0, .null) := by decide +kernel
theorem zf204_5 : zg zc204 5 = some (.iaload, 1, 0, 0, .null) := by decide +kernel
theorem zf204_6 : zg zc204 6 = some (.ifCond .le 7, 3, 13, 0, .null) := by decide +kernel
theorem zf204_13 : zg zc204 13 = some (.iconst 0, 1, 0, 0, .null) := by decide +kernel
theorem zf204_14 : zg zc204 14 = some (.ireturn, 1, 0, 0, .null) := by decide +kernel
set_option maxRecDepth 20000 in
theorem hgm204 : zg zms 204 = some (1, (some .boolean), zc204) := rfl
theorem har204 : zar 204 = (0, 11) := by decide +kernel
theorem zf248_4 : zg zc248 4 = some (.ifCond .eq 37, 3, 41, 0, .null) := by decide +kernel
theorem zf248_41 : zg zc248 41 = some (.iconst (-1), 1, 0, 0, .null) := by decide +kernel
theorem zf248_42 : zg zc248 42 = some (.ireturn, 1, 0, 0, .null) := by decide +kernel
set_option maxRecDepth 20000 in
theorem hgm248 : zg zms 248 = some (5, (some .int), zc248) := rfl
theorem zf141_0 : zg zc141 0 = some (.aload_n 0, 1, 0, 0, .null) := by decide +kernel
theorem zf141_1 : zg zc141 1 = some (.getfield 37, 3, 10, 5, .null) := by decide +kernel
theorem zf141_4 : zg zc141 4 = some (.iload_n 1, 1, 0, 0, .null) := by decide +kernel
theorem zf141_5 : zg zc141 5 = some (.invokevirtual 141, 3, 83, 0, .null) := by decide +kernel
theorem zf141_8 : zg zc141 8 = some (.ifCond .eq 26, 3, 34, 0, .null) := by decide +kernel
theorem zf141_34 : zg zc141 34 = some (.bipush (-3), 2, 0, 0, .null) := by decide +kernel
theorem zf141_36 : zg zc141 36 = some (.ireturn, 1, 0, 0, .null) := by decide +kernel
set_option maxRecDepth 20000 in
theorem hgm141 : zg zms 141 = some (6, (some .int), zc141) := rfl
theorem zf252_0 : zg zc252 0 = some (.aload_n 0, 1, 0, 0, .null) := by decide +kernel
theorem zf252_1 : zg zc252 1 = some (.iload_n 1, 1, 0, 0, .null) := by decide +kernel
theorem zf252_2 : zg zc252 2 = some (.invokevirtual 301, 3, 206, 0, .null) := by decide +kernel
theorem zf252_5 : zg zc252 5 = some (.ifCond .eq 24, 3, 29, 0, .null) := by decide +kernel
theorem zf252_29 : zg zc252 29 = some (.bipush (-3), 2, 0, 0, .null) := by decide +kernel
theorem zf252_31 : zg zc252 31 = some (.ireturn, 1, 0, 0, .null) := by decide +kernel
set_option maxRecDepth 20000 in
theorem hgm252 : zg zms 252 = some (6, (some .int), zc252) := rfl
theorem zf142_0 : zg zc142 0 = some (.aload_n 0, 1, 0, 0, .null) := by decide +kernel
theorem zf142_1 : zg zc142 1 = some (.getfield 37, 3, 10, 5, .null) := by decide +kernel
theorem zf142_4 : zg zc142 4 = some (.invokevirtual 215, 3, 76, 0, .null) := by decide +kernel
theorem zf142_7 : zg zc142 7 = some (.ifCond .eq 13, 3, 20, 0, .null) := by decide +kernel
theorem zf142_20 : zg zc142 20 = some (.bipush (-3), 2, 0, 0, .null) := by decide +kernel
theorem zf142_22 : zg zc142 22 = some (.ireturn, 1, 0, 0, .null) := by decide +kernel
set_option maxRecDepth 20000 in
theorem hgm142 : zg zms 142 = some (3, (some .int), zc142) := rfl
theorem zf257_0 : zg zc257 0 = some (.aload_n 0, 1, 0, 0, .null) := by decide +kernel
theorem zf257_1 : zg zc257 1 = some (.invokevirtual 344, 3, 204, 0, .null) := by decide +kernel
theorem zf257_4 : zg zc257 4 = some (.ifCond .eq 15, 3, 19, 0, .null) := by decide +kernel
theorem zf257_19 : zg zc257 19 = some (.bipush (-3), 2, 0, 0, .null) := by decide +kernel
theorem zf257_21 : zg zc257 21 = some (.ireturn, 1, 0, 0, .null) := by decide +kernel
set_option maxRecDepth 20000 in
theorem hgm257 : zg zms 257 = some (2, (some .int), zc257) := rfl
theorem zf143_0 : zg zc143 0 = some (.aload_n 0, 1, 0, 0, .null) := by decide +kernel
theorem zf143_1 : zg zc143 1 = some (.getfield 37, 3, 10, 5, .null) := by decide +kernel
theorem zf143_4 : zg zc143 4 = some (.iload_n 1, 1, 0, 0, .null) := by decide +kernel
theorem zf143_5 : zg zc143 5 = some (.invokevirtual 141, 3, 83, 0, .null) := by decide +kernel
theorem zf143_8 : zg zc143 8 = some (.ifCond .ne 5, 3, 13, 0, .null) := by decide +kernel
theorem zf143_11 : zg zc143 11 = some (.iconst (-1), 1, 0, 0, .null) := by decide +kernel
theorem zf143_12 : zg zc143 12 = some (.ireturn, 1, 0, 0, .null) := by decide +kernel
set_option maxRecDepth 20000 in
theorem hgm143 : zg zms 143 = some (2, (some .int), zc143) := rfl
theorem zf258_0 : zg zc258 0 = some (.aload_n 0, 1, 0, 0, .null) := by decide +kernel
theorem zf258_1 : zg zc258 1 = some (.iload_n 1, 1, 0, 0, .null) := by decide +kernel
theorem zf258_2 : zg zc258 2 = some (.invokevirtual 301, 3, 206, 0, .null) := by decide +kernel
theorem zf258_5 : zg zc258 5 = some (.ifCond .eq 17, 3, 22, 0, .null) := by decide +kernel
theorem zf258_22 : zg zc258 22 = some (.iconst (-1), 1, 0, 0, .null) := by decide +kernel
theorem zf258_23 : zg zc258 23 = some (.ireturn, 1, 0, 0, .null) := by decide +kernel
set_option maxRecDepth 20000 in
theorem hgm258 : zg zms 258 = some (2, (some .int), zc258) := rfl
theorem zf144_0 : zg zc144 0 = some (.aload_n 0, 1, 0, 0, .null) := by decide +kernel
theorem zf144_1 : zg zc144 1 = some (.getfield 37, 3, 10, 5, .null) := by decide +kernel
theorem zf144_4 : zg zc144 4 = some (.iload_n 1, 1, 0, 0, .null) := by decide +kernel
theorem zf144_5 : zg zc144 5 = some (.invokevirtual 141, 3, 83, 0, .null) := by decide +kernel
theorem zf144_8 : zg zc144 8 = some (.ifCond .eq 12, 3, 20, 0, .null) := by decide +kernel
theorem zf144_20 : zg zc144 20 = some (.iconst (-1), 1, 0, 0, .null) := by decide +kernel
theorem zf144_21 : zg zc144 21 = some (.ireturn, 1, 0, 0, .null) := by decide +kernel
set_option maxRecDepth 20000 in
theorem hgm144 : zg zms 144 = some (7, (some .int), zc144) := rfl
theorem zf261_0 : zg zc261 0 = some (.aload_n 0, 1, 0, 0, .null) := by decide +kernel
theorem zf261_1 : zg zc261 1 = some (.iload_n 1, 1, 0, 0, .null) := by decide +kernel
theorem zf261_2 : zg zc261 2 = some (.invokevirtual 301, 3, 206, 0, .null) := by decide +kernel
theorem zf261_5 : zg zc261 5 = some (.ifCond .eq 13, 3, 18, 0, .null) := by decide +kernel
theorem zf261_18 : zg zc261 18 = some (.iconst (-1), 1, 0, 0, .null) := by decide +kernel
theorem zf261_19 : zg zc261 19 = some (.ireturn, 1, 0, 0, .null) := by decide +kernel
set_option maxRecDepth 20000 in
theorem hgm261 : zg zms 261 = some (7, (some .int), zc261) := rfl
theorem zf145_0 : zg zc145 0 = some (.aload_n 0, 1, 0, 0, .null) := by decide +kernel
theorem zf145_1 : zg zc145 1 = some (.getfield 37, 3, 10, 5, .null) := by decide +kernel
theorem zf145_4 : zg zc145 4 = some (.invokevirtual 215, 3, 76, 0, .null) := by decide +kernel
theorem zf145_7 : zg zc145 7 = some (.ifCond .eq 12, 3, 19, 0, .null) := by decide +kernel
theorem zf145_19 : zg zc145 19 = some (.iconst (-1), 1, 0, 0, .null) := by decide +kernel
theorem zf145_20 : zg zc145 20 = some (.ireturn, 1, 0, 0, .null) := by decide +kernel
set_option maxRecDepth 20000 in
theorem hgm145 : zg zms 145 = some (8, (some .int), zc145) := rfl
theorem zf262_0 : zg zc262 0 = some (.aload_n 0, 1, 0, 0, .null) := by decide +kernel
theorem zf262_1 : zg zc262 1 = some (.invokevirtual 344, 3, 204, 0, .null) := by decide +kernel
theorem zf262_4 : zg zc262 4 = some (.ifCond .eq 15, 3, 19, 0, .null) := by decide +kernel
theorem zf262_19 : zg zc262 19 = some (.iconst (-1), 1, 0, 0, .null) := by decide +kernel
theorem zf262_20 : zg zc262 20 = some (.ireturn, 1, 0, 0, .null) := by decide +kernel
set_option maxRecDepth 20000 in
theorem hgm262 : zg zms 262 = some (9, (some .int), zc262) := rfl
theorem zf146_0 : zg zc146 0 = some (.aload_n 0, 1, 0, 0, .null) := by decide +kernel
theorem zf146_1 : zg zc146 1 = some (.getfield 37, 3, 10, 5, .null) := by decide +kernel
theorem zf146_4 : zg zc146 4 = some (.invokevirtual 215, 3, 76, 0, .null) := by decide +kernel
theorem zf146_7 : zg zc146 7 = some (.ifCond .eq 13, 3, 20, 0, .null) := by decide +kernel
theorem zf146_20 : zg zc146 20 = some (.iconst (-1), 1, 0, 0, .null) := by decide +kernel
theorem zf146_21 : zg zc146 21 = some (.ireturn, 1, 0, 0, .null) := by decide +kernel
set_option maxRecDepth 20000 in
theorem hgm146 : zg zms 146 = some (2, (some .int), zc146) := rfl
theorem zf264_0 : zg zc264 0 = some (.aload_n 0, 1, 0, 0, .null) := by decide +kernel
theorem zf264_1 : zg zc264 1 = some (.invokevirtual 344, 3, 204, 0, .null) := by decide +kernel
theorem zf264_4 : zg zc264 4 = some (.ifCond .eq 15, 3, 19, 0, .null) := by decide +kernel
theorem zf264_19 : zg zc264 19 = some (.iconst (-1), 1, 0, 0, .null) := by decide +kernel
theorem zf264_20 : zg zc264 20 = some (.ireturn, 1, 0, 0, .null) := by decide +kernel
set_option maxRecDepth 20000 in
theorem hgm264 : zg zms 264 = some (4, (some .int), zc264) := rfl
theorem zf147_0 : zg zc147 0 = some (.aload_n 0, 1, 0, 0, .null) := by decide +kernel
theorem zf147_1 : zg zc147 1 = some (.getfield 37, 3, 10, 5, .null) := by decide +kernel
theorem zf147_4 : zg zc147 4 = some (.iload_n 1, 1, 0, 0, .null) := by decide +kernel
theorem zf147_5 : zg zc147 5 = some (.invokevirtual 175, 3, 85, 0, .null) := by decide +kernel
theorem zf147_8 : zg zc147 8 = some (.ifCond .eq 14, 3, 22, 0, .null) := by decide +kernel
theorem zf147_22 : zg zc147 22 = some (.sipush (-1000), 3, 0, 0, .null) := by decide +kernel
theorem zf147_25 : zg zc147 25 = some (.ireturn, 1, 0, 0, .null) := by decide +kernel
set_option maxRecDepth 20000 in
theorem hgm147 : zg zms 147 = some (2, (some .int), zc147) := rfl
theorem zf265_0 : zg zc265 0 = some (.aload_n 0, 1, 0, 0, .null) := by decide +kernel
theorem zf265_1 : zg zc265 1 = some (.iload_n 1, 1, 0, 0, .null) := by decide +kernel
theorem zf265_2 : zg zc265 2 = some (.invokevirtual 314, 3, 205, 0, .null) := by decide +kernel
theorem zf265_5 : zg zc265 5 = some (.ifCond .ne 7, 3, 12, 0, .null) := by decide +kernel
theorem zf265_8 : zg zc265 8 = some (.sipush (-1000), 3, 0, 0, .null) := by decide +kernel
theorem zf265_11 : zg zc265 11 = some (.ireturn, 1, 0, 0, .null) := by decide +kernel
set_option maxRecDepth 20000 in
theorem hgm265 : zg zms 265 = some (4, (some .int), zc265) := rfl
theorem zf148_0 : zg zc148 0 = some (.aload_n 0, 1, 0, 0, .null) := by decide +kernel
theorem zf148_1 : zg zc148 1 = some (.getfield 37, 3, 10, 5, .null) := by decide +kernel
theorem zf148_4 : zg zc148 4 = some (.iload_n 1, 1, 0, 0, .null) := by decide +kernel
theorem zf148_5 : zg zc148 5 = some (.invokevirtual 141, 3, 83, 0, .null) := by decide +kernel
theorem zf148_8 : zg zc148 8 = some (.ifCond .eq 12, 3, 20, 0, .null) := by decide +kernel
theorem zf148_20 : zg zc148 20 = some (.iconst (-1), 1, 0, 0, .null) := by decide +kernel
theorem zf148_21 : zg zc148 21 = some (.ireturn, 1, 0, 0, .null) := by decide +kernel
set_option maxRecDepth 20000 in
theorem hgm148 : zg zms 148 = some (3, (some .int), zc148) := rfl
theorem zf267_0 : zg zc267 0 = some (.aload_n 0, 1, 0, 0, .null) := by decide +kernel
theorem zf267_1 : zg zc267 1 = some (.iload_n 1, 1, 0, 0, .null) := by decide +kernel
theorem zf267_2 : zg zc267 2 = some (.invokevirtual 301, 3, 206, 0, .null) := by decide +kernel
theorem zf267_5 : zg zc267 5 = some (.ifCond .eq 15, 3, 20, 0, .null) := by decide +kernel
theorem zf267_20 : zg zc267 20 = some (.iconst (-1), 1, 0, 0, .null) := by decide +kernel
theorem zf267_21 : zg zc267 21 = some (.ireturn, 1, 0, 0, .null) := by decide +kernel
set_option maxRecDepth 20000 in
theorem hgm267 : zg zms 267 = some (3, (some .int), zc267) := rfl
theorem zf149_0 : zg zc149 0 = some (.aload_n 0, 1, 0, 0, .null) := by decide +kernel
theorem zf149_1 : zg zc149 1 = some (.getfield 37, 3, 10, 5, .null) := by decide +kernel
theorem zf149_4 : zg zc149 4 = some (.invokevirtual 215, 3, 76, 0, .null) := by decide +kernel
theorem zf149_7 : zg zc149 7 = some (.ifCond .eq 11, 3, 18, 0, .null) := by decide +kernel
theorem zf149_18 : zg zc149 18 = some (.iconst (-1), 1, 0, 0, .null) := by decide +kernel
theorem zf149_19 : zg zc149 19 = some (.ireturn, 1, 0, 0, .null) := by decide +kernel
set_option maxRecDepth 20000 in
theorem hgm149 : zg zms 149 = some (3, (some .int), zc149) := rfl
theorem zf269_0 : zg zc269 0 = some (.aload_n 0, 1, 0, 0, .null) := by decide +kernel
theorem zf269_1 : zg zc269 1 = some (.invokevirtual 344, 3, 204, 0, .null) := by decide +kernel
theorem zf269_4 : zg zc269 4 = some (.ifCond .eq 11, 3, 15, 0, .null) := by decide +kernel
theorem zf269_15 : zg zc269 15 = some (.iconst (-1), 1, 0, 0, .null) := by decide +kernel
theorem zf269_16 : zg zc269 16 = some (.ireturn, 1, 0, 0, .null) := by decide +kernel
set_option maxRecDepth 20000 in
theorem hgm269 : zg zms 269 = some (4, (some .int), zc269) := rfl
theorem zf150_0 : zg zc150 0 = some (.aload_n 0, 1, 0, 0, .null) := by decide +kernel
theorem zf150_1 : zg zc150 1 = some (.getfield 37, 3, 10, 5, .null) := by decide +kernel
theorem zf150_4 : zg zc150 4 = some (.invokevirtual 215, 3, 76, 0, .null) := by decide +kernel
theorem zf150_7 : zg zc150 7 = some (.ifCond .eq 12, 3, 19, 0, .null) := by decide +kernel
theorem zf150_19 : zg zc150 19 = some (.iconst (-1), 1, 0, 0, .null) := by decide +kernel
theorem zf150_20 : zg zc150 20 = some (.ireturn, 1, 0, 0, .null) := by decide +kernel
set_option maxRecDepth 20000 in
theorem hgm150 : zg zms 150 = some (4, (some .int), zc150) := rfl
theorem zf272_0 : zg zc272 0 = some (.aload_n 0, 1, 0, 0, .null) := by decide +kernel
theorem zf272_1 : zg zc272 1 = some (.invokevirtual 344, 3, 204, 0, .null) := by decide +kernel
theorem zf272_4 : zg zc272 4 = some (.ifCond .eq 15, 3, 19, 0, .null) := by decide +kernel
theorem zf272_19 : zg zc272 19 = some (.iconst (-1), 1, 0, 0, .null) := by decide +kernel
theorem zf272_20 : zg zc272 20 = some (.ireturn, 1, 0, 0, .null) := by decide +kernel
set_option maxRecDepth 20000 in
theorem hgm272 : zg zms 272 = some (4, (some .int), zc272) := rfl
theorem zf153_0 : zg zc153 0 = some (.aload_n 0, 1, 0, 0, .null) := by decide +kernel
theorem zf153_1 : zg zc153 1 = some (.getfield 37, 3, 10, 5, .null) := by decide +kernel
theorem zf153_4 : zg zc153 4 = some (.invokevirtual 215, 3, 76, 0, .null) := by decide +kernel
theorem zf153_7 : zg zc153 7 = some (.ifCond .eq 34, 3, 41, 0, .null) := by decide +kernel
theorem zf153_41 : zg zc153 41 = some (.iconst (-1), 1, 0, 0, .null) := by decide +kernel
theorem zf153_42 : zg zc153 42 = some (.ireturn, 1, 0, 0, .null) := by decide +kernel
set_option maxRecDepth 20000 in
theorem hgm153 : zg zms 153 = some (9, (some .int), zc153) := rfl
theorem zf276_0 : zg zc276 0 = some (.aload_n 0, 1, 0, 0, .null) := by decide +kernel
theorem zf276_1 : zg zc276 1 = some (.invokevirtual 344, 3, 204, 0, .null) := by decide +kernel
theorem zf276_4 : zg zc276 4 = some (.ifCond .eq 37, 3, 41, 0, .null) := by decide +kernel
theorem zf276_41 : zg zc276 41 = some (.iconst (-1), 1, 0, 0, .null) := by decide +kernel
theorem zf276_42 : zg zc276 42 = some (.ireturn, 1, 0, 0, .null) := by decide +kernel
set_option maxRecDepth 20000 in
theorem hgm276 : zg zms 276 = some (8, (some .int), zc276) := rfl
theorem zf124_0 : zg zc124 0 = some (.iload_n 1, 1, 0, 0, .null) := by decide +kernel
theorem zf124_1 : zg zc124 1 = some (.ifCond .lt 11, 3, 12, 0, .null) := by decide +kernel
theorem zf124_12 : zg zc124 12 = some (.iconst (-1), 1, 0, 0, .null) := by decide +kernel
theorem zf124_13 : zg zc124 13 = some (.ireturn, 1, 0, 0, .null) := by decide +kernel
theorem zf124_4 : zg zc124 4 = some (.iload_n 1, 1, 0, 0, .null) := by decide +kernel
theorem zf124_5 : zg zc124 5 = some (.aload_n 0, 1, 0, 0, .null) := by decide +kernel
theorem zf124_6 : zg zc124 6 = some (.getfield 97, 3, 10, 1, .null) := by decide +kernel
theorem zf124_9 : zg zc124 9 = some (.if_icmp .le 5, 3, 14, 0, .null) := by decide +kernel
set_option maxRecDepth 20000 in
theorem hgm124 : zg zms 124 = some (2, (some .int), zc124) := rfl
theorem zf162_0 : zg zc162 0 = some (.iload_n 1, 1, 0, 0, .null) := by decide +kernel
theorem zf162_1 : zg zc162 1 = some (.ifCond .lt 11, 3, 12, 0, .null) := by decide +kernel
theorem zf162_12 : zg zc162 12 = some (.iconst (-1), 1, 0, 0, .null) := by decide +kernel
theorem zf162_13 : zg zc162 13 = some (.ireturn, 1, 0, 0, .null) := by decide +kernel
theorem zf162_4 : zg zc162 4 = some (.iload_n 1, 1, 0, 0, .null) := by decide +kernel
theorem zf162_5 : zg zc162 5 = some (.aload_n 0, 1, 0, 0, .null) := by decide +kernel
theorem zf162_6 : zg zc162 6 = some (.getfield 64, 3, 11, 1, .null) := by decide +kernel
theorem zf162_9 : zg zc162 9 = some (.if_icmp .le 5, 3, 14, 0, .null) := by decide +kernel
set_option maxRecDepth 20000 in
theorem hgm162 : zg zms 162 = some (2, (some .int), zc162) := rfl
theorem zf154_0 : zg zc154 0 = some (.iload_n 1, 1, 0, 0, .null) := by decide +kernel
theorem zf154_1 : zg zc154 1 = some (.tableswitch 153 0 11 #[63, 71, 79, 87, 95, 100, 108, 116, 124, 132, 140, 148], 63, 0, 0, .null) := by decide +kernel
theorem zf154_154 : zg zc154 154 = some (.iconst (-1), 1, 0, 0, .null) := by decide +kernel
theorem zf154_155 : zg zc154 155 = some (.ireturn, 1, 0, 0, .null) := by decide +kernel
set_option maxRecDepth 20000 in
theorem hgm154 : zg zms 154 = some (2, (some .int), zc154) := rfl
theorem zf277_0 : zg zc277 0 = some (.iconst 0, 1, 0, 0, .null) := by decide +kernel
theorem zf277_1 : zg zc277 1 = some (.istore_n 2, 1, 0, 0, .null) := by decide +kernel
theorem zf277_2 : zg zc277 2 = some (.iload_n 1, 1, 0, 0, .null) := by decide +kernel
theorem zf277_3 : zg zc277 3 = some (.tableswitch 168 0 11 #[61, 61, 61, 61, 68, 73, 80, 87, 125, 153, 158, 163], 61, 0, 0, .null) := by decide +kernel
theorem zf277_171 : zg zc277 171 = some (.iconst (-1), 1, 0, 0, .null) := by decide +kernel
theorem zf277_172 : zg zc277 172 = some (.ireturn, 1, 0, 0, .null) := by decide +kernel
set_option maxRecDepth 20000 in
theorem hgm277 : zg zms 277 = some (4, (some .int), zc277) := rfl
theorem zf155_0 : zg zc155 0 = some (.iload_n 1, 1, 0, 0, .null) := by decide +kernel
theorem zf155_1 : zg zc155 1 = some (.ifCond .lt 8, 3, 9, 0, .null) := by decide +kernel
theorem zf155_9 : zg zc155 9 = some (.iconst (-1), 1, 0, 0, .null) := by decide +kernel
theorem zf155_10 : zg zc155 10 = some (.ireturn, 1, 0, 0, .null) := by decide +kernel
theorem zf155_4 : zg zc155 4 = some (.iload_n 1, 1, 0, 0, .null) := by decide +kernel
theorem zf155_5 : zg zc155 5 = some (.iconst 4, 1, 0, 0, .null) := by decide +kernel
theorem zf155_6 : zg zc155 6 = some (.if_icmp .lt 5, 3, 11, 0, .null) := by decide +kernel
set_option maxRecDepth 20000 in
theorem hgm155 : zg zms 155 = some (2, (some .int), zc155) := rfl
theorem zf278_0 : zg zc278 0 = some (.iload_n 1, 1, 0, 0, .null) := by decide +kernel
theorem zf278_1 : zg zc278 1 = some (.i2l, 1, 0, 0, .null) := by decide +kernel
theorem zf156_0 : zg zc156 0 = some (.iload_n 1, 1, 0, 0, .null) := by decide +kernel
theorem zf156_1 : zg zc156 1 = some (.ifCond .lt 17, 3, 18, 0, .null) := by decide +kernel
theorem zf156_18 : zg zc156 18 = some (.iconst (-1), 1, 0, 0, .null) := by decide +kernel
theorem zf156_19 : zg zc156 19 = some (.ireturn, 1, 0, 0, .null) := by decide +kernel
theorem zf156_4 : zg zc156 4 = some (.iload_n 1, 1, 0, 0, .null) := by decide +kernel
theorem zf156_5 : zg zc156 5 = some (.iconst 4, 1, 0, 0, .null) := by decide +kernel
theorem zf156_6 : zg zc156 6 = some (.if_icmp .ge 12, 3, 18, 0, .null) := by decide +kernel
set_option maxRecDepth 20000 in
theorem hgm156 : zg zms 156 = some (2, (some .int), zc156) := rfl
theorem zf279_0 : zg zc279 0 = some (.iload_n 1, 1, 0, 0, .null) := by decide +kernel
theorem zf279_1 : zg zc279 1 = some (.i2l, 1, 0, 0, .null) := by decide +kernel
set_option maxRecDepth 20000 in
theorem hgm158 : zg zms 158 = some (6, (some .boolean), zc158) := rfl
theorem zf158_0 : zg zc158 0 = some (.lload_n 0, 1, 0, 0, .null) := by decide +kernel
theorem zf158_1 : zg zc158 1 = some (.lload_n 2, 1, 0, 0, .null) := by decide +kernel
theorem zf158_2 : zg zc158 2 = some (.lcmp, 1, 0, 0, .null) := by decide +kernel
theorem zf158_3 : zg zc158 3 = some (.ifCond .lt 14, 3, 17, 0, .null) := by decide +kernel
theorem zf158_17 : zg zc158 17 = some (.iconst 0, 1, 0, 0, .null) := by decide +kernel
theorem zf158_18 : zg zc158 18 = some (.ireturn, 1, 0, 0, .null) := by decide +kernel
theorem zf158_6 : zg zc158 6 = some (.lload_n 0, 1, 0, 0, .null) := by decide +kernel
theorem zf158_7 : zg zc158 7 = some (.lload 4, 2, 0, 0, .null) := by decide +kernel
theorem zf158_9 : zg zc158 9 = some (.lcmp, 1, 0, 0, .null) := by decide +kernel
theorem zf158_10 : zg zc158 10 = some (.ifCond .gt 7, 3, 17, 0, .null) := by decide +kernel
set_option maxRecDepth 20000 in
theorem hgm278 : zg zms 278 = some (3, (some .int), zc278) := rfl
theorem zf278_2 : zg zc278 2 = some (.lconst 0, 1, 0, 0, .null) := by decide +kernel
theorem zf278_3 : zg zc278 3 = some (.ldc2_w 491, 3, 0, 0, .long 3) := by decide +kernel
theorem zf278_6 : zg zc278 6 = some (.invokestatic 103, 3, 158, 1, .null) := by decide +kernel
theorem har158 : zar 158 = (3, 200) := by decide +kernel
theorem zf278_9 : zg zc278 9 = some (.ifCond .ne 5, 3, 14, 0, .null) := by decide +kernel
theorem zf278_12 : zg zc278 12 = some (.iconst (-1), 1, 0, 0, .null) := by decide +kernel
theorem zf278_13 : zg zc278 13 = some (.ireturn, 1, 0, 0, .null) := by decide +kernel
set_option maxRecDepth 20000 in
theorem hgm279 : zg zms 279 = some (3, (some .int), zc279) := rfl
theorem zf279_2 : zg zc279 2 = some (.lconst 0, 1, 0, 0, .null) := by decide +kernel
theorem zf279_3 : zg zc279 3 = some (.ldc2_w 491, 3, 0, 0, .long 3) := by decide +kernel
theorem zf279_6 : zg zc279 6 = some (.invokestatic 103, 3, 158, 1, .null) := by decide +kernel
theorem zf279_9 : zg zc279 9 = some (.ifCond .eq 12, 3, 21, 0, .null) := by decide +kernel
theorem zf279_21 : zg zc279 21 = some (.iconst (-1), 1, 0, 0, .null) := by decide +kernel
theorem zf279_22 : zg zc279 22 = some (.ireturn, 1, 0, 0, .null) := by decide +kernel
theorem hc43 : hpC.2 43 = .inr (1, [.int 0]) := zob_eq (by decide +kernel)
theorem hl43 : (43 : Nat) < hpC.1 := by decide +kernel
set_option maxRecDepth 20000 in
theorem hgm152 : zg zms 152 = some (3, (some .int), zc152) := rfl
theorem zf152_0 : zg zc152 0 = some (.iload_n 1, 1, 0, 0, .null) := by decide +kernel
theorem zf152_1 : zg zc152 1 = some (.ifCond .ge 5, 3, 6, 0, .null) := by decide +kernel
theorem zf152_4 : zg zc152 4 = some (.iconst (-1), 1, 0, 0, .null) := by decide +kernel
theorem zf152_5 : zg zc152 5 = some (.ireturn, 1, 0, 0, .null) := by decide +kernel
theorem zf152_6 : zg zc152 6 = some (.aload_n 0, 1, 0, 0, .null) := by decide +kernel
theorem zf152_7 : zg zc152 7 = some (.getfield 72, 3, 10, 13, .null) := by decide +kernel
theorem zf152_10 : zg zc152 10 = some (.getfield 310, 3, 1, 0, .null) := by decide +kernel
theorem zf152_13 : zg zc152 13 = some (.istore_n 2, 1, 0, 0, .null) := by decide +kernel
theorem zf152_14 : zg zc152 14 = some (.aload_n 0, 1, 0, 0, .null) := by decide +kernel
theorem zf152_15 : zg zc152 15 = some (.getfield 72, 3, 10, 13, .null) := by decide +kernel
theorem zf152_18 : zg zc152 18 = some (.iload_n 1, 1, 0, 0, .null) := by decide +kernel
theorem zf152_19 : zg zc152 19 = some (.putfield 310, 3, 1, 0, .null) := by decide +kernel
theorem zf152_22 : zg zc152 22 = some (.iload_n 2, 1, 0, 0, .null) := by decide +kernel
theorem zf152_23 : zg zc152 23 = some (.ireturn, 1, 0, 0, .null) := by decide +kernel
set_option maxRecDepth 20000 in
theorem hgm273 : zg zms 273 = some (3, (some .int), zc273) := rfl
theorem zf273_0 : zg zc273 0 = some (.iload_n 1, 1, 0, 0, .null) := by decide +kernel
theorem zf273_1 : zg zc273 1 = some (.ifCond .ge 5, 3, 6, 0, .null) := by decide +kernel
theorem zf273_4 : zg zc273 4 = some (.iconst (-1), 1, 0, 0, .null) := by decide +kernel
theorem zf273_5 : zg zc273 5 = some (.ireturn, 1, 0, 0, .null) := by decide +kernel
theorem zf273_6 : zg zc273 6 = some (.aload_n 0, 1, 0, 0, .null) := by decide +kernel
theorem zf273_7 : zg zc273 7 = some (.getfield 468, 3, 11, 23, .null) := by decide +kernel
theorem zf273_10 : zg zc273 10 = some (.istore_n 2, 1, 0, 0, .null) := by decide +kernel
theorem zf273_11 : zg zc273 11 = some (.aload_n 0, 1, 0, 0, .null) := by decide +kernel
theorem zf273_12 : zg zc273 12 = some (.iload_n 1, 1, 0, 0, .null) := by decide +kernel
theorem zf273_13 : zg zc273 13 = some (.putfield 468, 3, 11, 23, .null) := by decide +kernel
theorem zf273_16 : zg zc273 16 = some (.iload_n 2, 1, 0, 0, .null) := by decide +kernel
theorem zf273_17 : zg zc273 17 = some (.ireturn, 1, 0, 0, .null) := by decide +kernel
theorem zf123_7 : zg zc123 7 = some (.aload_n 0, 1, 0, 0, .null) := by decide +kernel
theorem zf123_8 : zg zc123 8 = some (.getfield 97, 3, 10, 1, .null) := by decide +kernel
theorem zf123_11 : zg zc123 11 = some (.sipush 400, 3, 0, 0, .null) := by decide +kernel
theorem zf123_14 : zg zc123 14 = some (.if_icmp .ge 29, 3, 43, 0, .null) := by decide +kernel
theorem zf123_17 : zg zc123 17 = some (.aload_n 0, 1, 0, 0, .null) := by decide +kernel
theorem zf123_18 : zg zc123 18 = some (.getfield 9, 3, 10, 0, .null) := by decide +kernel
theorem zf123_21 : zg zc123 21 = some (.aload_n 0, 1, 0, 0, .null) := by decide +kernel
theorem zf123_22 : zg zc123 22 = some (.getfield 97, 3, 10, 1, .null) := by decide +kernel
theorem zf123_25 : zg zc123 25 = some (.iload_n 1, 1, 0, 0, .null) := by decide +kernel
theorem zf123_26 : zg zc123 26 = some (.iload_n 2, 1, 0, 0, .null) := by decide +kernel
theorem zf123_27 : zg zc123 27 = some (.iushr, 1, 0, 0, .null) := by decide +kernel
theorem zf123_28 : zg zc123 28 = some (.sipush 255, 3, 0, 0, .null) := by decide +kernel
theorem zf123_31 : zg zc123 31 = some (.iand, 1, 0, 0, .null) := by decide +kernel
theorem zf123_32 : zg zc123 32 = some (.iastore, 1, 0, 0, .null) := by decide +kernel
theorem zf123_33 : zg zc123 33 = some (.aload_n 0, 1, 0, 0, .null) := by decide +kernel
theorem zf123_34 : zg zc123 34 = some (.dup, 1, 0, 0, .null) := by decide +kernel
theorem zf123_35 : zg zc123 35 = some (.getfield 97, 3, 10, 1, .null) := by decide +kernel
theorem zf123_38 : zg zc123 38 = some (.iconst 1, 1, 0, 0, .null) := by decide +kernel
theorem zf123_39 : zg zc123 39 = some (.iadd, 1, 0, 0, .null) := by decide +kernel
theorem zf123_40 : zg zc123 40 = some (.putfield 97, 3, 10, 1, .null) := by decide +kernel
set_option maxRecDepth 20000 in
theorem hgm123 : zg zms 123 = some (3, none, zc123) := rfl
theorem zf123_0 : zg zc123 0 = some (.bipush 24, 2, 0, 0, .null) := by decide +kernel
theorem zf123_2 : zg zc123 2 = some (.istore_n 2, 1, 0, 0, .null) := by decide +kernel
theorem zf123_3 : zg zc123 3 = some (.iload_n 2, 1, 0, 0, .null) := by decide +kernel
theorem zf123_4 : zg zc123 4 = some (.ifCond .lt 45, 3, 49, 0, .null) := by decide +kernel
theorem zf123_43 : zg zc123 43 = some (.iinc 2 (-8), 3, 0, 0, .null) := by decide +kernel
theorem zf123_46 : zg zc123 46 = some (.goto (-43), 3, 3, 0, .null) := by decide +kernel
theorem zf123_49 : zg zc123 49 = some (.return_, 1, 0, 0, .null) := by decide +kernel
theorem zf160_7 : zg zc160 7 = some (.aload_n 0, 1, 0, 0, .null) := by decide +kernel
theorem zf160_8 : zg zc160 8 = some (.getfield 7, 3, 11, 0, .null) := by decide +kernel
theorem zf160_11 : zg zc160 11 = some (.aload_n 0, 1, 0, 0, .null) := by decide +kernel
theorem zf160_12 : zg zc160 12 = some (.getfield 64, 3, 11, 1, .null) := by decide +kernel
theorem zf160_15 : zg zc160 15 = some (.iload_n 1, 1, 0, 0, .null) := by decide +kernel
theorem zf160_16 : zg zc160 16 = some (.iload_n 2, 1, 0, 0, .null) := by decide +kernel
theorem zf160_17 : zg zc160 17 = some (.ishr, 1, 0, 0, .null) := by decide +kernel
theorem zf160_18 : zg zc160 18 = some (.i2b, 1, 0, 0, .null) := by decide +kernel
theorem zf160_19 : zg zc160 19 = some (.bastore, 1, 0, 0, .null) := by decide +kernel
theorem zf160_20 : zg zc160 20 = some (.aload_n 0, 1, 0, 0, .null) := by decide +kernel
theorem zf160_21 : zg zc160 21 = some (.dup, 1, 0, 0, .null) := by decide +kernel
theorem zf160_22 : zg zc160 22 = some (.getfield 64, 3, 11, 1, .null) := by decide +kernel
theorem zf160_25 : zg zc160 25 = some (.iconst 1, 1, 0, 0, .null) := by decide +kernel
theorem zf160_26 : zg zc160 26 = some (.iadd, 1, 0, 0, .null) := by decide +kernel
theorem zf160_27 : zg zc160 27 = some (.putfield 64, 3, 11, 1, .null) := by decide +kernel
set_option maxRecDepth 20000 in
theorem hgm160 : zg zms 160 = some (3, none, zc160) := rfl
theorem zf160_0 : zg zc160 0 = some (.bipush 24, 2, 0, 0, .null) := by decide +kernel
theorem zf160_2 : zg zc160 2 = some (.istore_n 2, 1, 0, 0, .null) := by decide +kernel
theorem zf160_3 : zg zc160 3 = some (.iload_n 2, 1, 0, 0, .null) := by decide +kernel
theorem zf160_4 : zg zc160 4 = some (.ifCond .lt 32, 3, 36, 0, .null) := by decide +kernel
theorem zf160_30 : zg zc160 30 = some (.iinc 2 (-8), 3, 0, 0, .null) := by decide +kernel
theorem zf160_33 : zg zc160 33 = some (.goto (-30), 3, 3, 0, .null) := by decide +kernel
theorem zf160_36 : zg zc160 36 = some (.return_, 1, 0, 0, .null) := by decide +kernel
set_option maxRecDepth 20000 in
theorem hgm122 : zg zms 122 = some (6, (some .int), zc122) := rfl
theorem zf122_0 : zg zc122 0 = some (.aload_n 0, 1, 0, 0, .null) := by decide +kernel
theorem zf122_1 : zg zc122 1 = some (.getfield 97, 3, 10, 1, .null) := by decide +kernel
theorem zf122_4 : zg zc122 4 = some (.bipush 20, 2, 0, 0, .null) := by decide +kernel
theorem zf122_6 : zg zc122 6 = some (.iadd, 1, 0, 0, .null) := by decide +kernel
theorem zf122_7 : zg zc122 7 = some (.sipush 400, 3, 0, 0, .null) := by decide +kernel
theorem zf122_10 : zg zc122 10 = some (.if_icmp .le 5, 3, 15, 0, .null) := by decide +kernel
theorem zf122_15 : zg zc122 15 = some (.aload_n 0, 1, 0, 0, .null) := by decide +kernel
theorem zf122_16 : zg zc122 16 = some (.iload_n 1, 1, 0, 0, .null) := by decide +kernel
theorem zf122_17 : zg zc122 17 = some (.invokevirtual 101, 3, 123, 0, .null) := by decide +kernel
theorem har123 : zar 123 = (1, 10) := by decide +kernel
theorem zf122_20 : zg zc122 20 = some (.aload_n 0, 1, 0, 0, .null) := by decide +kernel
theorem zf122_21 : zg zc122 21 = some (.iload_n 2, 1, 0, 0, .null) := by decide +kernel
theorem zf122_22 : zg zc122 22 = some (.invokevirtual 101, 3, 123, 0, .null) := by decide +kernel
theorem zf122_25 : zg zc122 25 = some (.aload_n 0, 1, 0, 0, .null) := by decide +kernel
theorem zf122_26 : zg zc122 26 = some (.iload_n 3, 1, 0, 0, .null) := by decide +kernel
theorem zf122_27 : zg zc122 27 = some (.invokevirtual 101, 3, 123, 0, .null) := by decide +kernel
theorem zf122_30 : zg zc122 30 = some (.aload_n 0, 1, 0, 0, .null) := by decide +kernel
theorem zf122_31 : zg zc122 31 = some (.iload 4, 2, 0, 0, .null) := by decide +kernel
theorem zf122_33 : zg zc122 33 = some (.invokevirtual 101, 3, 123, 0, .null) := by decide +kernel
theorem zf122_36 : zg zc122 36 = some (.aload_n 0, 1, 0, 0, .null) := by decide +kernel
theorem zf122_37 : zg zc122 37 = some (.iload 5, 2, 0, 0, .null) := by decide +kernel
theorem zf122_39 : zg zc122 39 = some (.invokevirtual 101, 3, 123, 0, .null) := by decide +kernel
theorem zf122_42 : zg zc122 42 = some (.aload_n 0, 1, 0, 0, .null) := by decide +kernel
theorem zf122_43 : zg zc122 43 = some (.getfield 97, 3, 10, 1, .null) := by decide +kernel
theorem zf122_46 : zg zc122 46 = some (.ireturn, 1, 0, 0, .null) := by decide +kernel
set_option maxRecDepth 20000 in
theorem hgm161 : zg zms 161 = some (6, (some .int), zc161) := rfl
theorem zf161_0 : zg zc161 0 = some (.aload_n 0, 1, 0, 0, .null) := by decide +kernel
theorem zf161_1 : zg zc161 1 = some (.getfield 64, 3, 11, 1, .null) := by decide +kernel
theorem zf161_4 : zg zc161 4 = some (.bipush 20, 2, 0, 0, .null) := by decide +kernel
theorem zf161_6 : zg zc161 6 = some (.iadd, 1, 0, 0, .null) := by decide +kernel
theorem zf161_7 : zg zc161 7 = some (.sipush 400, 3, 0, 0, .null) := by decide +kernel
theorem zf161_10 : zg zc161 10 = some (.if_icmp .le 5, 3, 15, 0, .null) := by decide +kernel
theorem zf161_15 : zg zc161 15 = some (.aload_n 0, 1, 0, 0, .null) := by decide +kernel
theorem zf161_16 : zg zc161 16 = some (.iload_n 1, 1, 0, 0, .null) := by decide +kernel
theorem zf161_17 : zg zc161 17 = some (.invokevirtual 68, 3, 160, 0, .null) := by decide +kernel
theorem har160 : zar 160 = (1, 11) := by decide +kernel
theorem zf161_20 : zg zc161 20 = some (.aload_n 0, 1, 0, 0, .null) := by decide +kernel
theorem zf161_21 : zg zc161 21 = some (.iload_n 2, 1, 0, 0, .null) := by decide +kernel
theorem zf161_22 : zg zc161 22 = some (.invokevirtual 68, 3, 160, 0, .null) := by decide +kernel
theorem zf161_25 : zg zc161 25 = some (.aload_n 0, 1, 0, 0, .null) := by decide +kernel
theorem zf161_26 : zg zc161 26 = some (.iload_n 3, 1, 0, 0, .null) := by decide +kernel
theorem zf161_27 : zg zc161 27 = some (.invokevirtual 68, 3, 160, 0, .null) := by decide +kernel
theorem zf161_30 : zg zc161 30 = some (.aload_n 0, 1, 0, 0, .null) := by decide +kernel
theorem zf161_31 : zg zc161 31 = some (.iload 4, 2, 0, 0, .null) := by decide +kernel
theorem zf161_33 : zg zc161 33 = some (.invokevirtual 68, 3, 160, 0, .null) := by decide +kernel
theorem zf161_36 : zg zc161 36 = some (.aload_n 0, 1, 0, 0, .null) := by decide +kernel
theorem zf161_37 : zg zc161 37 = some (.iload 5, 2, 0, 0, .null) := by decide +kernel
theorem zf161_39 : zg zc161 39 = some (.invokevirtual 68, 3, 160, 0, .null) := by decide +kernel
theorem zf161_42 : zg zc161 42 = some (.aload_n 0, 1, 0, 0, .null) := by decide +kernel
theorem zf161_43 : zg zc161 43 = some (.getfield 64, 3, 11, 1, .null) := by decide +kernel
theorem zf161_46 : zg zc161 46 = some (.ireturn, 1, 0, 0, .null) := by decide +kernel
theorem hc1 : hpC.2 1 = .inl (0, 400, .inl (zaf (hpC.2 1))) := zai_eq (by decide +kernel)
theorem hc71 : hpC.2 71 = .inl (1, 400, .inl (zaf (hpC.2 71))) := zai_eq (by decide +kernel)
theorem hl1 : (1 : Nat) < hpC.1 := by decide +kernel
theorem hl71 : (71 : Nat) < hpC.1 := by decide +kernel
