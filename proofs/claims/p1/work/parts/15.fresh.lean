/-! p1: the heap behind the two constructors, closed. -/
def zob (c : zCl) : Option (Nat × List Value) := match c with
  | .inr x => some x
  | .inl _ => none
theorem zob_eq {c : zCl} {x : Nat × List Value} (h : zob c = some x) : c = .inr x := by
  cases c with
  | inl y => cases h
  | inr y => cases h; rfl
def zai (c : zCl) : Option (Nat × Nat) := match c with
  | .inl (t, n, .inl _) => some (t, n)
  | _ => none
def zaf (c : zCl) : Nat → Int32 := match c with
  | .inl (_, _, .inl f) => f
  | _ => fun _ => 0
theorem zai_eq {c : zCl} {t n : Nat} (h : zai c = some (t, n)) : c = .inl (t, n, .inl (zaf c)) := by
  cases c with
  | inr y => cases h
  | inl y =>
    obtain ⟨t2, n2, g⟩ := y
    cases g with
    | inl g => cases h; rfl
    | inr g => cases h
def zpre : Option (zFr × zHp) := zstN (zcall zts zms 1000 20) 4 ret zcL 10 (0, [(0, .ref zSC)], []) zh0
def hpC : zHp := match zpre with
  | some x => x.2
  | none => zh0
theorem zpre_fr : zpre.map (fun x => x.1) = some (18, [(3, .int 0), (2, .ref 70), (1, .ref 0), (0, .ref 1000)], []) := by decide +kernel
theorem zpre_eq : zpre = some ((18, [(3, .int 0), (2, .ref 70), (1, .ref 0), (0, .ref 1000)], []), hpC) := by
  have h := zpre_fr
  unfold hpC
  cases hz : zpre with
  | none => rw [hz] at h; cases h
  | some x =>
    rw [hz] at h
    have h2 : x.1 = (18, [(3, .int 0), (2, .ref 70), (1, .ref 0), (0, .ref 1000)], []) := Option.some.inj h
    show some x = some (_, x.2)
    rw [← h2]
theorem hpC_n : hpC.1 = 88 := by decide +kernel
/-- the fresh heap: nothing looks into it but by its facts -/
def zFr0 (hp : zHp) : Prop := hp = hpC
theorem hpn {hp : zHp} (F : zFr0 hp) : hp.1 ≤ 2000 := by rw [show hp = hpC from F, hpC_n]; decide
theorem zpre_at {hp : zHp} (F : zFr0 hp) : zstN (zcall zts zms 1000 20) 4 ret zcL 10 (0, [(0, .ref zSC)], []) zh0 = some ((18, [(3, .int 0), (2, .ref 70), (1, .ref 0), (0, .ref 1000)], []), hp) := by
  rw [show hp = hpC from F]
  exact zpre_eq
def zhpo (x : Option zRe) : zHp := match x with
  | some r => r.2
  | none => zh0
theorem zcl {f d k : Nat} {as : List Value} {hp : zHp} {v : Option Value} (h : (zcall zts zms f d k as hp).map (fun r => r.1) = some v) : zCan d k as hp (v, zhpo (zcall zts zms f d k as hp)) := by
  cases hz : zcall zts zms f d k as hp with
  | none => rw [hz] at h; cases h
  | some x =>
    rw [hz] at h
    have h2 : x.1 = v := Option.some.inj h
    refine zCan_of (f := f) ?_
    rw [hz, ← h2]
    rfl
theorem zup_ne {h : Nat → zCl} {i j : Nat} {c : zCl} (e : ¬ i = j) : zup h j c i = h i := if_neg e
theorem zup_eq {h : Nat → zCl} {j : Nat} {c : zCl} : zup h j c j = c := if_pos rfl
theorem zno {P : Prop} (h : False) : P := h.elim
theorem zI0 : (0 : Int32).toInt = 0 := by decide
theorem zI1 : (1 : Int32).toInt = 1 := by decide
theorem zI2 : (2 : Int32).toInt = 2 := by decide
theorem zI3 : (3 : Int32).toInt = 3 := by decide
theorem zI4 : (4 : Int32).toInt = 4 := by decide
theorem zI5 : (5 : Int32).toInt = 5 := by decide
theorem zI6 : (6 : Int32).toInt = 6 := by decide
theorem zI7 : (7 : Int32).toInt = 7 := by decide
theorem zI8 : (8 : Int32).toInt = 8 := by decide
theorem zI9 : (9 : Int32).toInt = 9 := by decide
theorem zI10 : (10 : Int32).toInt = 10 := by decide
theorem zI11 : (11 : Int32).toInt = 11 := by decide
theorem zL0 : (0 : Int64).toInt = 0 := by decide
theorem zL3 : (3 : Int64).toInt = 3 := by decide
theorem zlgL (x y : Int64) : (lg_cmp x y < 0) ↔ x.toInt < y.toInt := by
  have h := lg_cmp_ge x y
  rw [Int64.le_iff_toInt_le] at h
  rw [← Int32.not_le, h]
  omega
theorem zlgG (x y : Int64) : (0 < lg_cmp x y) ↔ y.toInt < x.toInt := by
  unfold lg_cmp
  by_cases h1 : x > y
  · rw [if_pos h1]
    have h2 : y < x := h1
    rw [Int64.lt_iff_toInt_lt] at h2
    exact ⟨fun _ => h2, fun _ => by decide⟩
  · rw [if_neg h1]
    have h2 : ¬ y < x := h1
    rw [Int64.lt_iff_toInt_lt] at h2
    by_cases h3 : x = y
    · rw [if_pos h3]
      exact ⟨fun h => absurd h (by decide), fun h => absurd h h2⟩
    · rw [if_neg h3]
      exact ⟨fun h => absurd h (by decide), fun h => absurd h h2⟩
theorem zTab_out {df lo hi : Int} {offs : Array Int} {pc t : Nat} {lv : List (Nat × Value)} {rest : List Value} {x : Int32} {hp : zHp} (h : x.toInt < lo ∨ hi < x.toInt) (ht : (pc : Int) + df = (t : Int)) : zTab df lo hi offs (pc, lv, .int x :: rest) hp = some (.inl ((t, lv, rest), hp)) := by
  unfold zTab zJmp zn
  dsimp only
  rw [if_pos h, ht, Int.toNat_natCast, if_pos rfl]
theorem zTab_in {df lo hi off : Int} {offs : Array Int} {pc t : Nat} {lv : List (Nat × Value)} {rest : List Value} {x : Int32} {hp : zHp} (h : ¬ (x.toInt < lo ∨ hi < x.toInt)) (ho : offs[(x.toInt - lo).toNat]? = some off) (ht : (pc : Int) + off = (t : Int)) : zTab df lo hi offs (pc, lv, .int x :: rest) hp = some (.inl ((t, lv, rest), hp)) := by
  unfold zTab zJmp zn
  dsimp only
  rw [if_neg h, ho]
  dsimp only
  rw [ht, Int.toNat_natCast, if_pos rfl]
theorem zf128_0 : zg zc128 0 = some (.aload_n 0, 1, 0, 0, .null) := by decide +kernel
theorem zf128_1 : zg zc128 1 = some (.getfield 37, 3, 10, 5, .null) := by decide +kernel
theorem Hl0 : (0 : Nat) < hpC.1 := by decide +kernel
theorem hl0 {hp : zHp} (F : zFr0 hp) : (0 : Nat) < hp.1 := by rw [show hp = hpC from F]; exact Hl0
theorem Hc0 : hpC.2 0 = .inr (10, [.ref 1, .int 0, .ref 2, .ref 4, .ref 6, .ref 9, .ref 11, .ref 13, .int 0, .ref 14, .ref 36, .ref 41, .ref 42, .ref 43, .ref 44, .ref 50, .ref 67]) := zob_eq (by decide +kernel)
theorem hc0 {hp : zHp} (F : zFr0 hp) : hp.2 0 = .inr (10, [.ref 1, .int 0, .ref 2, .ref 4, .ref 6, .ref 9, .ref 11, .ref 13, .int 0, .ref 14, .ref 36, .ref 41, .ref 42, .ref 43, .ref 44, .ref 50, .ref 67]) := by rw [show hp = hpC from F]; exact Hc0
theorem zf128_4 : zg zc128 4 = some (.iload_n 1, 1, 0, 0, .null) := by decide +kernel
theorem zf128_5 : zg zc128 5 = some (.invokevirtual 141, 3, 83, 0, .null) := by decide +kernel
theorem zf83_0 : zg zc83 0 = some (.iload_n 1, 1, 0, 0, .null) := by decide +kernel
theorem zf83_1 : zg zc83 1 = some (.ifCond .lt 15, 3, 16, 0, .null) := by decide +kernel
theorem zf83_16 : zg zc83 16 = some (.iconst 0, 1, 0, 0, .null) := by decide +kernel
theorem zf83_17 : zg zc83 17 = some (.ireturn, 1, 0, 0, .null) := by decide +kernel
theorem zf83_4 : zg zc83 4 = some (.iload_n 1, 1, 0, 0, .null) := by decide +kernel
theorem zf83_5 : zg zc83 5 = some (.aload_n 0, 1, 0, 0, .null) := by decide +kernel
theorem zf83_6 : zg zc83 6 = some (.invokevirtual 27, 3, 79, 0, .null) := by decide +kernel
theorem zf79_0 : zg zc79 0 = some (.aload_n 0, 1, 0, 0, .null) := by decide +kernel
theorem zf79_1 : zg zc79 1 = some (.getfield 11, 3, 8, 0, .null) := by decide +kernel
theorem Hl9 : (9 : Nat) < hpC.1 := by decide +kernel
theorem hl9 {hp : zHp} (F : zFr0 hp) : (9 : Nat) < hp.1 := by rw [show hp = hpC from F]; exact Hl9
theorem Hc9 : hpC.2 9 = .inr (8, [.ref 10]) := zob_eq (by decide +kernel)
theorem hc9 {hp : zHp} (F : zFr0 hp) : hp.2 9 = .inr (8, [.ref 10]) := by rw [show hp = hpC from F]; exact Hc9
theorem zf79_4 : zg zc79 4 = some (.iconst 2, 1, 0, 0, .null) := by decide +kernel
theorem zf79_5 : zg zc79 5 = some (.iaload, 1, 0, 0, .null) := by decide +kernel
theorem Hl10 : (10 : Nat) < hpC.1 := by decide +kernel
theorem hl10 {hp : zHp} (F : zFr0 hp) : (10 : Nat) < hp.1 := by rw [show hp = hpC from F]; exact Hl10
theorem Hc10 : hpC.2 10 = .inl (0, 114, .inl (zaf (hpC.2 10))) := zai_eq (by decide +kernel)
theorem hc10 {hp : zHp} (F : zFr0 hp) : hp.2 10 = .inl (0, 114, .inl (zaf (hp.2 10))) := by rw [show hp = hpC from F]; exact Hc10
theorem Ha10_2 : zaf (hpC.2 10) (2 : Int32).toNatClampNeg = 0 := by decide +kernel
theorem ha10_2 {hp : zHp} (F : zFr0 hp) : zaf (hp.2 10) (2 : Int32).toNatClampNeg = 0 := by rw [show hp = hpC from F]; exact Ha10_2
theorem zf79_6 : zg zc79 6 = some (.ireturn, 1, 0, 0, .null) := by decide +kernel
set_option maxRecDepth 20000 in
theorem hgm79 : zg zms 79 = some (1, (some .int), zc79) := rfl
theorem har79 : zar 79 = (0, 8) := by decide +kernel
theorem Hk9 : zKd 9 hpC = some 8 := by decide +kernel
theorem hk9 {hp : zHp} (F : zFr0 hp) : zKd 9 hp = some 8 := by rw [show hp = hpC from F]; exact Hk9
theorem zf83_9 : zg zc83 9 = some (.if_icmp .ge 7, 3, 16, 0, .null) := by decide +kernel
set_option maxRecDepth 20000 in
theorem hgm83 : zg zms 83 = some (2, (some .boolean), zc83) := rfl
theorem har83 : zar 83 = (1, 8) := by decide +kernel
theorem zf128_8 : zg zc128 8 = some (.ifCond .eq 13, 3, 21, 0, .null) := by decide +kernel
theorem zf128_21 : zg zc128 21 = some (.iconst (-1), 1, 0, 0, .null) := by decide +kernel
theorem zf128_22 : zg zc128 22 = some (.ireturn, 1, 0, 0, .null) := by decide +kernel
set_option maxRecDepth 20000 in
theorem hgm128 : zg zms 128 = some (3, (some .int), zc128) := rfl
theorem zf217_0 : zg zc217 0 = some (.aload_n 0, 1, 0, 0, .null) := by decide +kernel
theorem zf217_1 : zg zc217 1 = some (.iload_n 1, 1, 0, 0, .null) := by decide +kernel
theorem zf217_2 : zg zc217 2 = some (.invokevirtual 301, 3, 206, 0, .null) := by decide +kernel
theorem zf206_0 : zg zc206 0 = some (.iload_n 1, 1, 0, 0, .null) := by decide +kernel
theorem zf206_1 : zg zc206 1 = some (.ifCond .lt 17, 3, 18, 0, .null) := by decide +kernel
theorem zf206_18 : zg zc206 18 = some (.iconst 0, 1, 0, 0, .null) := by decide +kernel
theorem zf206_19 : zg zc206 19 = some (.ireturn, 1, 0, 0, .null) := by decide +kernel
theorem zf206_4 : zg zc206 4 = some (.iload_n 1, 1, 0, 0, .null) := by decide +kernel
theorem zf206_5 : zg zc206 5 = some (.aload_n 0, 1, 0, 0, .null) := by decide +kernel
theorem zf206_6 : zg zc206 6 = some (.getfield 39, 3, 11, 22, .null) := by decide +kernel
theorem Hl70 : (70 : Nat) < hpC.1 := by decide +kernel
theorem hl70 {hp : zHp} (F : zFr0 hp) : (70 : Nat) < hp.1 := by rw [show hp = hpC from F]; exact Hl70
theorem Hc70 : hpC.2 70 = .inr (11, [.ref 71, .int 0, .int 0, .ref 72, .ref 73, .ref 74, .ref 75, .ref 76, .int 0, .int 0, .int 0, .int 0, .int 0, .int 0, .int 0, .ref 77, .int 0, .int 0, .int 0, .ref 78, .int 0, .ref 79, .ref 80, .int 0, .ref 81, .int 0, .int 0, .int 0, .ref 82, .ref 83, .int 0, .ref 84, .int 0, .int 0, .int 0, .long 0, .ref 85, .ref 86, .ref 87]) := zob_eq (by decide +kernel)
theorem hc70 {hp : zHp} (F : zFr0 hp) : hp.2 70 = .inr (11, [.ref 71, .int 0, .int 0, .ref 72, .ref 73, .ref 74, .ref 75, .ref 76, .int 0, .int 0, .int 0, .int 0, .int 0, .int 0, .int 0, .ref 77, .int 0, .int 0, .int 0, .ref 78, .int 0, .ref 79, .ref 80, .int 0, .ref 81, .int 0, .int 0, .int 0, .ref 82, .ref 83, .int 0, .ref 84, .int 0, .int 0, .int 0, .long 0, .ref 85, .ref 86, .ref 87]) := by rw [show hp = hpC from F]; exact Hc70
theorem zf206_9 : zg zc206 9 = some (.iconst 2, 1, 0, 0, .null) := by decide +kernel
theorem zf206_10 : zg zc206 10 = some (.iaload, 1, 0, 0, .null) := by decide +kernel
theorem Hl80 : (80 : Nat) < hpC.1 := by decide +kernel
theorem hl80 {hp : zHp} (F : zFr0 hp) : (80 : Nat) < hp.1 := by rw [show hp = hpC from F]; exact Hl80
theorem Hc80 : hpC.2 80 = .inl (0, 148, .inl (zaf (hpC.2 80))) := zai_eq (by decide +kernel)
theorem hc80 {hp : zHp} (F : zFr0 hp) : hp.2 80 = .inl (0, 148, .inl (zaf (hp.2 80))) := by rw [show hp = hpC from F]; exact Hc80
theorem Ha80_2 : zaf (hpC.2 80) (2 : Int32).toNatClampNeg = 0 := by decide +kernel
theorem ha80_2 {hp : zHp} (F : zFr0 hp) : zaf (hp.2 80) (2 : Int32).toNatClampNeg = 0 := by rw [show hp = hpC from F]; exact Ha80_2
theorem zf206_11 : zg zc206 11 = some (.if_icmp .ge 7, 3, 18, 0, .null) := by decide +kernel
set_option maxRecDepth 20000 in
theorem hgm206 : zg zms 206 = some (2, (some .boolean), zc206) := rfl
theorem har206 : zar 206 = (1, 11) := by decide +kernel
theorem Hk70 : zKd 70 hpC = some 11 := by decide +kernel
theorem hk70 {hp : zHp} (F : zFr0 hp) : zKd 70 hp = some 11 := by rw [show hp = hpC from F]; exact Hk70
theorem zf217_5 : zg zc217 5 = some (.ifCond .eq 15, 3, 20, 0, .null) := by decide +kernel
theorem zf217_20 : zg zc217 20 = some (.iconst (-1), 1, 0, 0, .null) := by decide +kernel
theorem zf217_21 : zg zc217 21 = some (.ireturn, 1, 0, 0, .null) := by decide +kernel
set_option maxRecDepth 20000 in
theorem hgm217 : zg zms 217 = some (3, (some .int), zc217) := rfl
theorem zf129_0 : zg zc129 0 = some (.aload_n 0, 1, 0, 0, .null) := by decide +kernel
theorem zf129_1 : zg zc129 1 = some (.getfield 37, 3, 10, 5, .null) := by decide +kernel
theorem zf129_4 : zg zc129 4 = some (.iload_n 1, 1, 0, 0, .null) := by decide +kernel
theorem zf129_5 : zg zc129 5 = some (.invokevirtual 156, 3, 84, 0, .null) := by decide +kernel
theorem zf84_0 : zg zc84 0 = some (.iload_n 1, 1, 0, 0, .null) := by decide +kernel
theorem zf84_1 : zg zc84 1 = some (.ifCond .lt 15, 3, 16, 0, .null) := by decide +kernel
theorem zf84_16 : zg zc84 16 = some (.iconst 0, 1, 0, 0, .null) := by decide +kernel
theorem zf84_17 : zg zc84 17 = some (.ireturn, 1, 0, 0, .null) := by decide +kernel
theorem zf84_4 : zg zc84 4 = some (.iload_n 1, 1, 0, 0, .null) := by decide +kernel
theorem zf84_5 : zg zc84 5 = some (.aload_n 0, 1, 0, 0, .null) := by decide +kernel
theorem zf84_6 : zg zc84 6 = some (.invokevirtual 35, 3, 80, 0, .null) := by decide +kernel
theorem zf80_0 : zg zc80 0 = some (.aload_n 0, 1, 0, 0, .null) := by decide +kernel
theorem zf80_1 : zg zc80 1 = some (.getfield 11, 3, 8, 0, .null) := by decide +kernel
theorem zf80_4 : zg zc80 4 = some (.iconst 3, 1, 0, 0, .null) := by decide +kernel
theorem zf80_5 : zg zc80 5 = some (.iaload, 1, 0, 0, .null) := by decide +kernel
theorem Ha10_3 : zaf (hpC.2 10) (3 : Int32).toNatClampNeg = 0 := by decide +kernel
theorem ha10_3 {hp : zHp} (F : zFr0 hp) : zaf (hp.2 10) (3 : Int32).toNatClampNeg = 0 := by rw [show hp = hpC from F]; exact Ha10_3
theorem zf80_6 : zg zc80 6 = some (.ireturn, 1, 0, 0, .null) := by decide +kernel
set_option maxRecDepth 20000 in
theorem hgm80 : zg zms 80 = some (1, (some .int), zc80) := rfl
theorem har80 : zar 80 = (0, 8) := by decide +kernel
theorem zf84_9 : zg zc84 9 = some (.if_icmp .ge 7, 3, 16, 0, .null) := by decide +kernel
set_option maxRecDepth 20000 in
theorem hgm84 : zg zms 84 = some (2, (some .boolean), zc84) := rfl
theorem har84 : zar 84 = (1, 8) := by decide +kernel
theorem zf129_8 : zg zc129 8 = some (.ifCond .eq 12, 3, 20, 0, .null) := by decide +kernel
theorem zf129_20 : zg zc129 20 = some (.bipush (-2), 2, 0, 0, .null) := by decide +kernel
theorem zf129_22 : zg zc129 22 = some (.ireturn, 1, 0, 0, .null) := by decide +kernel
set_option maxRecDepth 20000 in
theorem hgm129 : zg zms 129 = some (3, (some .int), zc129) := rfl
theorem zf218_0 : zg zc218 0 = some (.aload_n 0, 1, 0, 0, .null) := by decide +kernel
theorem zf218_1 : zg zc218 1 = some (.iload_n 1, 1, 0, 0, .null) := by decide +kernel
theorem zf218_2 : zg zc218 2 = some (.invokevirtual 306, 3, 207, 0, .null) := by decide +kernel
theorem zf207_0 : zg zc207 0 = some (.iload_n 1, 1, 0, 0, .null) := by decide +kernel
theorem zf207_1 : zg zc207 1 = some (.ifCond .lt 17, 3, 18, 0, .null) := by decide +kernel
theorem zf207_18 : zg zc207 18 = some (.iconst 0, 1, 0, 0, .null) := by decide +kernel
theorem zf207_19 : zg zc207 19 = some (.ireturn, 1, 0, 0, .null) := by decide +kernel
theorem zf207_4 : zg zc207 4 = some (.iload_n 1, 1, 0, 0, .null) := by decide +kernel
theorem zf207_5 : zg zc207 5 = some (.aload_n 0, 1, 0, 0, .null) := by decide +kernel
theorem zf207_6 : zg zc207 6 = some (.getfield 39, 3, 11, 22, .null) := by decide +kernel
theorem zf207_9 : zg zc207 9 = some (.iconst 3, 1, 0, 0, .null) := by decide +kernel
theorem zf207_10 : zg zc207 10 = some (.iaload, 1, 0, 0, .null) := by decide +kernel
theorem Ha80_3 : zaf (hpC.2 80) (3 : Int32).toNatClampNeg = 0 := by decide +kernel
theorem ha80_3 {hp : zHp} (F : zFr0 hp) : zaf (hp.2 80) (3 : Int32).toNatClampNeg = 0 := by rw [show hp = hpC from F]; exact Ha80_3
theorem zf207_11 : zg zc207 11 = some (.if_icmp .ge 7, 3, 18, 0, .null) := by decide +kernel
set_option maxRecDepth 20000 in
theorem hgm207 : zg zms 207 = some (2, (some .boolean), zc207) := rfl
theorem har207 : zar 207 = (1, 11) := by decide +kernel
theorem zf218_5 : zg zc218 5 = some (.ifCond .eq 15, 3, 20, 0, .null) := by decide +kernel
theorem zf218_20 : zg zc218 20 = some (.bipush (-2), 2, 0, 0, .null) := by decide +kernel
theorem zf218_22 : zg zc218 22 = some (.ireturn, 1, 0, 0, .null) := by decide +kernel
set_option maxRecDepth 20000 in
theorem hgm218 : zg zms 218 = some (3, (some .int), zc218) := rfl
theorem zf130_0 : zg zc130 0 = some (.aload_n 0, 1, 0, 0, .null) := by decide +kernel
theorem zf130_1 : zg zc130 1 = some (.getfield 37, 3, 10, 5, .null) := by decide +kernel
theorem zf130_4 : zg zc130 4 = some (.iload_n 1, 1, 0, 0, .null) := by decide +kernel
theorem zf130_5 : zg zc130 5 = some (.iload_n 2, 1, 0, 0, .null) := by decide +kernel
theorem zf130_6 : zg zc130 6 = some (.invokevirtual 165, 3, 86, 0, .null) := by decide +kernel
theorem zf86_0 : zg zc86 0 = some (.aload_n 0, 1, 0, 0, .null) := by decide +kernel
theorem zf86_1 : zg zc86 1 = some (.iload_n 1, 1, 0, 0, .null) := by decide +kernel
theorem zf86_2 : zg zc86 2 = some (.invokevirtual 44, 3, 85, 0, .null) := by decide +kernel
theorem zf85_0 : zg zc85 0 = some (.iload_n 1, 1, 0, 0, .null) := by decide +kernel
theorem zf85_1 : zg zc85 1 = some (.ifCond .lt 15, 3, 16, 0, .null) := by decide +kernel
theorem zf85_16 : zg zc85 16 = some (.iconst 0, 1, 0, 0, .null) := by decide +kernel
theorem zf85_17 : zg zc85 17 = some (.ireturn, 1, 0, 0, .null) := by decide +kernel
theorem zf85_4 : zg zc85 4 = some (.iload_n 1, 1, 0, 0, .null) := by decide +kernel
theorem zf85_5 : zg zc85 5 = some (.aload_n 0, 1, 0, 0, .null) := by decide +kernel
theorem zf85_6 : zg zc85 6 = some (.invokevirtual 41, 3, 77, 0, .null) := by decide +kernel
theorem zf77_0 : zg zc77 0 = some (.aload_n 0, 1, 0, 0, .null) := by decide +kernel
theorem zf77_1 : zg zc77 1 = some (.getfield 11, 3, 8, 0, .null) := by decide +kernel
theorem zf77_4 : zg zc77 4 = some (.iconst 0, 1, 0, 0, .null) := by decide +kernel
theorem zf77_5 : zg zc77 5 = some (.iaload, 1, 0, 0, .null) := by decide +kernel
theorem Ha10_0 : zaf (hpC.2 10) (0 : Int32).toNatClampNeg = 0 := by decide +kernel
theorem ha10_0 {hp : zHp} (F : zFr0 hp) : zaf (hp.2 10) (0 : Int32).toNatClampNeg = 0 := by rw [show hp = hpC from F]; exact Ha10_0
theorem zf77_6 : zg zc77 6 = some (.ireturn, 1, 0, 0, .null) := by decide +kernel
set_option maxRecDepth 20000 in
theorem hgm77 : zg zms 77 = some (1, (some .int), zc77) := rfl
theorem har77 : zar 77 = (0, 8) := by decide +kernel
theorem zf85_9 : zg zc85 9 = some (.if_icmp .ge 7, 3, 16, 0, .null) := by decide +kernel
set_option maxRecDepth 20000 in
theorem hgm85 : zg zms 85 = some (2, (some .boolean), zc85) := rfl
theorem har85 : zar 85 = (1, 8) := by decide +kernel
theorem zf86_5 : zg zc86 5 = some (.ifCond .eq 20, 3, 25, 0, .null) := by decide +kernel
theorem zf86_25 : zg zc86 25 = some (.iconst 0, 1, 0, 0, .null) := by decide +kernel
theorem zf86_26 : zg zc86 26 = some (.ireturn, 1, 0, 0, .null) := by decide +kernel
set_option maxRecDepth 20000 in
theorem hgm86 : zg zms 86 = some (3, (some .boolean), zc86) := rfl
theorem har86 : zar 86 = (2, 8) := by decide +kernel
theorem zf130_9 : zg zc130 9 = some (.ifCond .eq 12, 3, 21, 0, .null) := by decide +kernel
theorem zf130_21 : zg zc130 21 = some (.iconst (-1), 1, 0, 0, .null) := by decide +kernel
theorem zf130_22 : zg zc130 22 = some (.ireturn, 1, 0, 0, .null) := by decide +kernel
set_option maxRecDepth 20000 in
theorem hgm130 : zg zms 130 = some (4, (some .int), zc130) := rfl
theorem zf219_0 : zg zc219 0 = some (.aload_n 0, 1, 0, 0, .null) := by decide +kernel
theorem zf219_1 : zg zc219 1 = some (.iload_n 1, 1, 0, 0, .null) := by decide +kernel
theorem zf219_2 : zg zc219 2 = some (.invokevirtual 314, 3, 205, 0, .null) := by decide +kernel
theorem zf205_0 : zg zc205 0 = some (.iload_n 1, 1, 0, 0, .null) := by decide +kernel
theorem zf205_1 : zg zc205 1 = some (.ifCond .lt 17, 3, 18, 0, .null) := by decide +kernel
theorem zf205_18 : zg zc205 18 = some (.iconst 0, 1, 0, 0, .null) := by decide +kernel
theorem zf205_19 : zg zc205 19 = some (.ireturn, 1, 0, 0, .null) := by decide +kernel
theorem zf205_4 : zg zc205 4 = some (.iload_n 1, 1, 0, 0, .null) := by decide +kernel
theorem zf205_5 : zg zc205 5 = some (.aload_n 0, 1, 0, 0, .null) := by decide +kernel
theorem zf205_6 : zg zc205 6 = some (.getfield 39, 3, 11, 22, .null) := by decide +kernel
theorem zf205_9 : zg zc205 9 = some (.iconst 0, 1, 0, 0, .null) := by decide +kernel
theorem zf205_10 : zg zc205 10 = some (.iaload, 1, 0, 0, .null) := by decide +kernel
theorem Ha80_0 : zaf (hpC.2 80) (0 : Int32).toNatClampNeg = 0 := by decide +kernel
theorem ha80_0 {hp : zHp} (F : zFr0 hp) : zaf (hp.2 80) (0 : Int32).toNatClampNeg = 0 := by rw [show hp = hpC from F]; exact Ha80_0
theorem zf205_11 : zg zc205 11 = some (.if_icmp .ge 7, 3, 18, 0, .null) := by decide +kernel
set_option maxRecDepth 20000 in
theorem hgm205 : zg zms 205 = some (2, (some .boolean), zc205) := rfl
theorem har205 : zar 205 = (1, 11) := by decide +kernel
theorem zf219_5 : zg zc219 5 = some (.ifCond .eq 26, 3, 31, 0, .null) := by decide +kernel
theorem zf219_31 : zg zc219 31 = some (.iconst (-1), 1, 0, 0, .null) := by decide +kernel
theorem zf219_32 : zg zc219 32 = some (.ireturn, 1, 0, 0, .null) := by decide +kernel
set_option maxRecDepth 20000 in
theorem hgm219 : zg zms 219 = some (4, (some .int), zc219) := rfl
theorem zf131_0 : zg zc131 0 = some (.aload_n 0, 1, 0, 0, .null) := by decide +kernel
theorem zf131_1 : zg zc131 1 = some (.getfield 37, 3, 10, 5, .null) := by decide +kernel
theorem zf131_4 : zg zc131 4 = some (.iload_n 1, 1, 0, 0, .null) := by decide +kernel
theorem zf131_5 : zg zc131 5 = some (.invokevirtual 141, 3, 83, 0, .null) := by decide +kernel
theorem zf131_8 : zg zc131 8 = some (.ifCond .eq 26, 3, 34, 0, .null) := by decide +kernel
theorem zf131_34 : zg zc131 34 = some (.iconst (-1), 1, 0, 0, .null) := by decide +kernel
theorem zf131_35 : zg zc131 35 = some (.ireturn, 1, 0, 0, .null) := by decide +kernel
set_option maxRecDepth 20000 in
theorem hgm131 : zg zms 131 = some (3, (some .int), zc131) := rfl
theorem zf226_0 : zg zc226 0 = some (.aload_n 0, 1, 0, 0, .null) := by decide +kernel
theorem zf226_1 : zg zc226 1 = some (.iload_n 1, 1, 0, 0, .null) := by decide +kernel
theorem zf226_2 : zg zc226 2 = some (.invokevirtual 301, 3, 206, 0, .null) := by decide +kernel
theorem zf226_5 : zg zc226 5 = some (.ifCond .eq 20, 3, 25, 0, .null) := by decide +kernel
theorem zf226_25 : zg zc226 25 = some (.iconst (-1), 1, 0, 0, .null) := by decide +kernel
theorem zf226_26 : zg zc226 26 = some (.ireturn, 1, 0, 0, .null) := by decide +kernel
set_option maxRecDepth 20000 in
theorem hgm226 : zg zms 226 = some (3, (some .int), zc226) := rfl
theorem zf132_0 : zg zc132 0 = some (.aload_n 0, 1, 0, 0, .null) := by decide +kernel
theorem zf132_1 : zg zc132 1 = some (.getfield 37, 3, 10, 5, .null) := by decide +kernel
theorem zf132_4 : zg zc132 4 = some (.iload_n 1, 1, 0, 0, .null) := by decide +kernel
theorem zf132_5 : zg zc132 5 = some (.invokevirtual 141, 3, 83, 0, .null) := by decide +kernel
theorem zf132_8 : zg zc132 8 = some (.ifCond .eq 14, 3, 22, 0, .null) := by decide +kernel
theorem zf132_22 : zg zc132 22 = some (.iconst (-1), 1, 0, 0, .null) := by decide +kernel
theorem zf132_23 : zg zc132 23 = some (.ireturn, 1, 0, 0, .null) := by decide +kernel
set_option maxRecDepth 20000 in
theorem hgm132 : zg zms 132 = some (2, (some .int), zc132) := rfl
theorem zf227_0 : zg zc227 0 = some (.aload_n 0, 1, 0, 0, .null) := by decide +kernel
theorem zf227_1 : zg zc227 1 = some (.iload_n 1, 1, 0, 0, .null) := by decide +kernel
theorem zf227_2 : zg zc227 2 = some (.invokevirtual 301, 3, 206, 0, .null) := by decide +kernel
theorem zf227_5 : zg zc227 5 = some (.ifCond .eq 11, 3, 16, 0, .null) := by decide +kernel
theorem zf227_16 : zg zc227 16 = some (.iconst (-1), 1, 0, 0, .null) := by decide +kernel
theorem zf227_17 : zg zc227 17 = some (.ireturn, 1, 0, 0, .null) := by decide +kernel
set_option maxRecDepth 20000 in
theorem hgm227 : zg zms 227 = some (2, (some .int), zc227) := rfl
theorem zf133_0 : zg zc133 0 = some (.aload_n 0, 1, 0, 0, .null) := by decide +kernel
theorem zf133_1 : zg zc133 1 = some (.getfield 37, 3, 10, 5, .null) := by decide +kernel
theorem zf133_4 : zg zc133 4 = some (.iload_n 1, 1, 0, 0, .null) := by decide +kernel
theorem zf133_5 : zg zc133 5 = some (.invokevirtual 156, 3, 84, 0, .null) := by decide +kernel
theorem zf133_8 : zg zc133 8 = some (.ifCond .eq 14, 3, 22, 0, .null) := by decide +kernel
theorem zf133_22 : zg zc133 22 = some (.iconst (-1), 1, 0, 0, .null) := by decide +kernel
theorem zf133_23 : zg zc133 23 = some (.ireturn, 1, 0, 0, .null) := by decide +kernel
set_option maxRecDepth 20000 in
theorem hgm133 : zg zms 133 = some (2, (some .int), zc133) := rfl
theorem zf228_0 : zg zc228 0 = some (.aload_n 0, 1, 0, 0, .null) := by decide +kernel
theorem zf228_1 : zg zc228 1 = some (.iload_n 1, 1, 0, 0, .null) := by decide +kernel
theorem zf228_2 : zg zc228 2 = some (.invokevirtual 306, 3, 207, 0, .null) := by decide +kernel
theorem zf228_5 : zg zc228 5 = some (.ifCond .eq 11, 3, 16, 0, .null) := by decide +kernel
theorem zf228_16 : zg zc228 16 = some (.iconst (-1), 1, 0, 0, .null) := by decide +kernel
theorem zf228_17 : zg zc228 17 = some (.ireturn, 1, 0, 0, .null) := by decide +kernel
set_option maxRecDepth 20000 in
theorem hgm228 : zg zms 228 = some (2, (some .int), zc228) := rfl
theorem zf134_0 : zg zc134 0 = some (.aload_n 0, 1, 0, 0, .null) := by decide +kernel
theorem zf134_1 : zg zc134 1 = some (.getfield 37, 3, 10, 5, .null) := by decide +kernel
theorem zf134_4 : zg zc134 4 = some (.iload_n 1, 1, 0, 0, .null) := by decide +kernel
theorem zf134_5 : zg zc134 5 = some (.iload_n 2, 1, 0, 0, .null) := by decide +kernel
theorem zf134_6 : zg zc134 6 = some (.invokevirtual 165, 3, 86, 0, .null) := by decide +kernel
theorem zf134_9 : zg zc134 9 = some (.ifCond .eq 15, 3, 24, 0, .null) := by decide +kernel
theorem zf134_24 : zg zc134 24 = some (.iconst 0, 1, 0, 0, .null) := by decide +kernel
theorem zf134_25 : zg zc134 25 = some (.ireturn, 1, 0, 0, .null) := by decide +kernel
set_option maxRecDepth 20000 in
theorem hgm134 : zg zms 134 = some (3, (some .boolean), zc134) := rfl
theorem zf230_0 : zg zc230 0 = some (.aload_n 0, 1, 0, 0, .null) := by decide +kernel
theorem zf230_1 : zg zc230 1 = some (.iload_n 1, 1, 0, 0, .null) := by decide +kernel
theorem zf230_2 : zg zc230 2 = some (.invokevirtual 314, 3, 205, 0, .null) := by decide +kernel
theorem zf230_5 : zg zc230 5 = some (.ifCond .eq 34, 3, 39, 0, .null) := by decide +kernel
theorem zf230_39 : zg zc230 39 = some (.iconst 0, 1, 0, 0, .null) := by decide +kernel
theorem zf230_40 : zg zc230 40 = some (.ireturn, 1, 0, 0, .null) := by decide +kernel
set_option maxRecDepth 20000 in
theorem hgm230 : zg zms 230 = some (3, (some .boolean), zc230) := rfl
theorem zf136_0 : zg zc136 0 = some (.aload_n 0, 1, 0, 0, .null) := by decide +kernel
theorem zf136_1 : zg zc136 1 = some (.getfield 37, 3, 10, 5, .null) := by decide +kernel
theorem zf136_4 : zg zc136 4 = some (.iload_n 1, 1, 0, 0, .null) := by decide +kernel
theorem zf136_5 : zg zc136 5 = some (.invokevirtual 141, 3, 83, 0, .null) := by decide +kernel
theorem zf136_8 : zg zc136 8 = some (.ifCond .eq 14, 3, 22, 0, .null) := by decide +kernel
theorem zf136_22 : zg zc136 22 = some (.iconst (-1), 1, 0, 0, .null) := by decide +kernel
theorem zf136_23 : zg zc136 23 = some (.ireturn, 1, 0, 0, .null) := by decide +kernel
set_option maxRecDepth 20000 in
theorem hgm136 : zg zms 136 = some (4, (some .int), zc136) := rfl
theorem zf232_0 : zg zc232 0 = some (.aload_n 0, 1, 0, 0, .null) := by decide +kernel
theorem zf232_1 : zg zc232 1 = some (.iload_n 1, 1, 0, 0, .null) := by decide +kernel
theorem zf232_2 : zg zc232 2 = some (.invokevirtual 301, 3, 206, 0, .null) := by decide +kernel
theorem zf232_5 : zg zc232 5 = some (.ifCond .eq 21, 3, 26, 0, .null) := by decide +kernel
theorem zf232_26 : zg zc232 26 = some (.iconst (-1), 1, 0, 0, .null) := by decide +kernel
theorem zf232_27 : zg zc232 27 = some (.ireturn, 1, 0, 0, .null) := by decide +kernel
set_option maxRecDepth 20000 in
theorem hgm232 : zg zms 232 = some (4, (some .int), zc232) := rfl
theorem zf139_0 : zg zc139 0 = some (.aload_n 0, 1, 0, 0, .null) := by decide +kernel
theorem zf139_1 : zg zc139 1 = some (.getfield 37, 3, 10, 5, .null) := by decide +kernel
theorem zf139_4 : zg zc139 4 = some (.invokevirtual 215, 3, 76, 0, .null) := by decide +kernel
theorem zf76_0 : zg zc76 0 = some (.aload_n 0, 1, 0, 0, .null) := by decide +kernel
theorem zf76_1 : zg zc76 1 = some (.invokevirtual 41, 3, 77, 0, .null) := by decide +kernel
theorem zf76_4 : zg zc76 4 = some (.ifCond .le 7, 3, 11, 0, .null) := by decide +kernel
theorem zf76_11 : zg zc76 11 = some (.iconst 0, 1, 0, 0, .null) := by decide +kernel
theorem zf76_12 : zg zc76 12 = some (.ireturn, 1, 0, 0, .null) := by decide +kernel
set_option maxRecDepth 20000 in
theorem hgm76 : zg zms 76 = some (1, (some .boolean), zc76) := rfl
theorem har76 : zar 76 = (0, 8) := by decide +kernel
theorem zf139_7 : zg zc139 7 = some (.ifCond .eq 37, 3, 44, 0, .null) := by decide +kernel
theorem zf139_44 : zg zc139 44 = some (.iconst (-1), 1, 0, 0, .null) := by decide +kernel
theorem zf139_45 : zg zc139 45 = some (.ireturn, 1, 0, 0, .null) := by decide +kernel
set_option maxRecDepth 20000 in
theorem hgm139 : zg zms 139 = some (5, (some .int), zc139) := rfl
theorem zf248_0 : zg zc248 0 = some (.aload_n 0, 1, 0, 0, .null) := by decide +kernel
theorem zf248_1 : zg zc248 1 = some (.invokevirtual 344, 3, 204, 0, .null) := by decide +kernel
theorem zf204_0 : zg zc204 0 = some (.aload_n 0, 1, 0, 0, .null) := by decide +kernel
theorem zf204_1 : zg zc204 1 = some (.getfield 39, 3, 11, 22, .null) := by decide +kernel
theorem zf204_4 : zg zc204 4 = some (.iconst 0, 1, 0, 0, .null) := by decide +kernel
theorem zf204_5 : zg zc204 5 = some (.iaload, 1, 0, 0, .null) := by decide +kernel
theorem zf204_6 : zg zc204 6 = some (.ifCond .le 7, 3, 13, 0, .null) := by decide +kernel
theorem zf204_13 : zg zc204 13 = some (.iconst 0, 1, 0, 0, .null) := by decide +kernel
theorem zf204_14 : zg zc204 14 = some (.ireturn, 1, 0, 0, .null) := by decide +kernel
set_option maxRecDepth 20000 in
theorem hgm204 : zg zms 204 = some (1, (some .boolean), zc204) := rfl
theorem har204 : zar 204 = (0, 11) := by decide +kernel
theorem zf248_4 : zg zc248 4 = some (.ifCond .eq 37, 3, 41, 0, .null) := by decide +kernel
theorem zf248_41 : zg zc248 41 = some (.iconst (-1), 1, 0, 0, .null) := by decide +kernel
theorem zf248_42 : zg zc248 42 = some (.ireturn, 1, 0, 0, .null) := by decide +kernel
set_option maxRecDepth 20000 in
theorem hgm248 : zg zms 248 = some (5, (some .int), zc248) := rfl
theorem zf141_0 : zg zc141 0 = some (.aload_n 0, 1, 0, 0, .null) := by decide +kernel
theorem zf141_1 : zg zc141 1 = some (.getfield 37, 3, 10, 5, .null) := by decide +kernel
theorem zf141_4 : zg zc141 4 = some (.iload_n 1, 1, 0, 0, .null) := by decide +kernel
theorem zf141_5 : zg zc141 5 = some (.invokevirtual 141, 3, 83, 0, .null) := by decide +kernel
theorem zf141_8 : zg zc141 8 = some (.ifCond .eq 26, 3, 34, 0, .null) := by decide +kernel
theorem zf141_34 : zg zc141 34 = some (.bipush (-3), 2, 0, 0, .null) := by decide +kernel
theorem zf141_36 : zg zc141 36 = some (.ireturn, 1, 0, 0, .null) := by decide +kernel
set_option maxRecDepth 20000 in
theorem hgm141 : zg zms 141 = some (6, (some .int), zc141) := rfl
theorem zf252_0 : zg zc252 0 = some (.aload_n 0, 1, 0, 0, .null) := by decide +kernel
theorem zf252_1 : zg zc252 1 = some (.iload_n 1, 1, 0, 0, .null) := by decide +kernel
theorem zf252_2 : zg zc252 2 = some (.invokevirtual 301, 3, 206, 0, .null) := by decide +kernel
theorem zf252_5 : zg zc252 5 = some (.ifCond .eq 24, 3, 29, 0, .null) := by decide +kernel
theorem zf252_29 : zg zc252 29 = some (.bipush (-3), 2, 0, 0, .null) := by decide +kernel
theorem zf252_31 : zg zc252 31 = some (.ireturn, 1, 0, 0, .null) := by decide +kernel
set_option maxRecDepth 20000 in
theorem hgm252 : zg zms 252 = some (6, (some .int), zc252) := rfl
theorem zf142_0 : zg zc142 0 = some (.aload_n 0, 1, 0, 0, .null) := by decide +kernel
theorem zf142_1 : zg zc142 1 = some (.getfield 37, 3, 10, 5, .null) := by decide +kernel
theorem zf142_4 : zg zc142 4 = some (.invokevirtual 215, 3, 76, 0, .null) := by decide +kernel
theorem zf142_7 : zg zc142 7 = some (.ifCond .eq 13, 3, 20, 0, .null) := by decide +kernel
theorem zf142_20 : zg zc142 20 = some (.bipush (-3), 2, 0, 0, .null) := by decide +kernel
theorem zf142_22 : zg zc142 22 = some (.ireturn, 1, 0, 0, .null) := by decide +kernel
set_option maxRecDepth 20000 in
theorem hgm142 : zg zms 142 = some (3, (some .int), zc142) := rfl
theorem zf257_0 : zg zc257 0 = some (.aload_n 0, 1, 0, 0, .null) := by decide +kernel
theorem zf257_1 : zg zc257 1 = some (.invokevirtual 344, 3, 204, 0, .null) := by decide +kernel
theorem zf257_4 : zg zc257 4 = some (.ifCond .eq 15, 3, 19, 0, .null) := by decide +kernel
theorem zf257_19 : zg zc257 19 = some (.bipush (-3), 2, 0, 0, .null) := by decide +kernel
theorem zf257_21 : zg zc257 21 = some (.ireturn, 1, 0, 0, .null) := by decide +kernel
set_option maxRecDepth 20000 in
theorem hgm257 : zg zms 257 = some (2, (some .int), zc257) := rfl
theorem zf143_0 : zg zc143 0 = some (.aload_n 0, 1, 0, 0, .null) := by decide +kernel
theorem zf143_1 : zg zc143 1 = some (.getfield 37, 3, 10, 5, .null) := by decide +kernel
theorem zf143_4 : zg zc143 4 = some (.iload_n 1, 1, 0, 0, .null) := by decide +kernel
theorem zf143_5 : zg zc143 5 = some (.invokevirtual 141, 3, 83, 0, .null) := by decide +kernel
theorem zf143_8 : zg zc143 8 = some (.ifCond .ne 5, 3, 13, 0, .null) := by decide +kernel
theorem zf143_11 : zg zc143 11 = some (.iconst (-1), 1, 0, 0, .null) := by decide +kernel
theorem zf143_12 : zg zc143 12 = some (.ireturn, 1, 0, 0, .null) := by decide +kernel
set_option maxRecDepth 20000 in
theorem hgm143 : zg zms 143 = some (2, (some .int), zc143) := rfl
theorem zf258_0 : zg zc258 0 = some (.aload_n 0, 1, 0, 0, .null) := by decide +kernel
theorem zf258_1 : zg zc258 1 = some (.iload_n 1, 1, 0, 0, .null) := by decide +kernel
theorem zf258_2 : zg zc258 2 = some (.invokevirtual 301, 3, 206, 0, .null) := by decide +kernel
theorem zf258_5 : zg zc258 5 = some (.ifCond .eq 17, 3, 22, 0, .null) := by decide +kernel
theorem zf258_22 : zg zc258 22 = some (.iconst (-1), 1, 0, 0, .null) := by decide +kernel
theorem zf258_23 : zg zc258 23 = some (.ireturn, 1, 0, 0, .null) := by decide +kernel
set_option maxRecDepth 20000 in
theorem hgm258 : zg zms 258 = some (2, (some .int), zc258) := rfl
theorem zf144_0 : zg zc144 0 = some (.aload_n 0, 1, 0, 0, .null) := by decide +kernel
theorem zf144_1 : zg zc144 1 = some (.getfield 37, 3, 10, 5, .null) := by decide +kernel
theorem zf144_4 : zg zc144 4 = some (.iload_n 1, 1, 0, 0, .null) := by decide +kernel
theorem zf144_5 : zg zc144 5 = some (.invokevirtual 141, 3, 83, 0, .null) := by decide +kernel
theorem zf144_8 : zg zc144 8 = some (.ifCond .eq 12, 3, 20, 0, .null) := by decide +kernel
theorem zf144_20 : zg zc144 20 = some (.iconst (-1), 1, 0, 0, .null) := by decide +kernel
theorem zf144_21 : zg zc144 21 = some (.ireturn, 1, 0, 0, .null) := by decide +kernel
set_option maxRecDepth 20000 in
theorem hgm144 : zg zms 144 = some (7, (some .int), zc144) := rfl
theorem zf261_0 : zg zc261 0 = some (.aload_n 0, 1, 0, 0, .null) := by decide +kernel
theorem zf261_1 : zg zc261 1 = some (.iload_n 1, 1, 0, 0, .null) := by decide +kernel
theorem zf261_2 : zg zc261 2 = some (.invokevirtual 301, 3, 206, 0, .null) := by decide +kernel
theorem zf261_5 : zg zc261 5 = some (.ifCond .eq 13, 3, 18, 0, .null) := by decide +kernel
theorem zf261_18 : zg zc261 18 = some (.iconst (-1), 1, 0, 0, .null) := by decide +kernel
theorem zf261_19 : zg zc261 19 = some (.ireturn, 1, 0, 0, .null) := by decide +kernel
set_option maxRecDepth 20000 in
theorem hgm261 : zg zms 261 = some (7, (some .int), zc261) := rfl
theorem zf145_0 : zg zc145 0 = some (.aload_n 0, 1, 0, 0, .null) := by decide +kernel
theorem zf145_1 : zg zc145 1 = some (.getfield 37, 3, 10, 5, .null) := by decide +kernel
theorem zf145_4 : zg zc145 4 = some (.invokevirtual 215, 3, 76, 0, .null) := by decide +kernel
theorem zf145_7 : zg zc145 7 = some (.ifCond .eq 12, 3, 19, 0, .null) := by decide +kernel
theorem zf145_19 : zg zc145 19 = some (.iconst (-1), 1, 0, 0, .null) := by decide +kernel
theorem zf145_20 : zg zc145 20 = some (.ireturn, 1, 0, 0, .null) := by decide +kernel
set_option maxRecDepth 20000 in
theorem hgm145 : zg zms 145 = some (8, (some .int), zc145) := rfl
theorem zf262_0 : zg zc262 0 = some (.aload_n 0, 1, 0, 0, .null) := by decide +kernel
theorem zf262_1 : zg zc262 1 = some (.invokevirtual 344, 3, 204, 0, .null) := by decide +kernel
theorem zf262_4 : zg zc262 4 = some (.ifCond .eq 15, 3, 19, 0, .null) := by decide +kernel
theorem zf262_19 : zg zc262 19 = some (.iconst (-1), 1, 0, 0, .null) := by decide +kernel
theorem zf262_20 : zg zc262 20 = some (.ireturn, 1, 0, 0, .null) := by decide +kernel
set_option maxRecDepth 20000 in
theorem hgm262 : zg zms 262 = some (9, (some .int), zc262) := rfl
theorem zf146_0 : zg zc146 0 = some (.aload_n 0, 1, 0, 0, .null) := by decide +kernel
theorem zf146_1 : zg zc146 1 = some (.getfield 37, 3, 10, 5, .null) := by decide +kernel
theorem zf146_4 : zg zc146 4 = some (.invokevirtual 215, 3, 76, 0, .null) := by decide +kernel
theorem zf146_7 : zg zc146 7 = some (.ifCond .eq 13, 3, 20, 0, .null) := by decide +kernel
theorem zf146_20 : zg zc146 20 = some (.iconst (-1), 1, 0, 0, .null) := by decide +kernel
theorem zf146_21 : zg zc146 21 = some (.ireturn, 1, 0, 0, .null) := by decide +kernel
set_option maxRecDepth 20000 in
theorem hgm146 : zg zms 146 = some (2, (some .int), zc146) := rfl
theorem zf264_0 : zg zc264 0 = some (.aload_n 0, 1, 0, 0, .null) := by decide +kernel
theorem zf264_1 : zg zc264 1 = some (.invokevirtual 344, 3, 204, 0, .null) := by decide +kernel
theorem zf264_4 : zg zc264 4 = some (.ifCond .eq 15, 3, 19, 0, .null) := by decide +kernel
theorem zf264_19 : zg zc264 19 = some (.iconst (-1), 1, 0, 0, .null) := by decide +kernel
theorem zf264_20 : zg zc264 20 = some (.ireturn, 1, 0, 0, .null) := by decide +kernel
set_option maxRecDepth 20000 in
theorem hgm264 : zg zms 264 = some (4, (some .int), zc264) := rfl
theorem zf147_0 : zg zc147 0 = some (.aload_n 0, 1, 0, 0, .null) := by decide +kernel
theorem zf147_1 : zg zc147 1 = some (.getfield 37, 3, 10, 5, .null) := by decide +kernel
theorem zf147_4 : zg zc147 4 = some (.iload_n 1, 1, 0, 0, .null) := by decide +kernel
theorem zf147_5 : zg zc147 5 = some (.invokevirtual 175, 3, 85, 0, .null) := by decide +kernel
theorem zf147_8 : zg zc147 8 = some (.ifCond .eq 14, 3, 22, 0, .null) := by decide +kernel
theorem zf147_22 : zg zc147 22 = some (.sipush (-1000), 3, 0, 0, .null) := by decide +kernel
theorem zf147_25 : zg zc147 25 = some (.ireturn, 1, 0, 0, .null) := by decide +kernel
set_option maxRecDepth 20000 in
theorem hgm147 : zg zms 147 = some (2, (some .int), zc147) := rfl
theorem zf265_0 : zg zc265 0 = some (.aload_n 0, 1, 0, 0, .null) := by decide +kernel
theorem zf265_1 : zg zc265 1 = some (.iload_n 1, 1, 0, 0, .null) := by decide +kernel
theorem zf265_2 : zg zc265 2 = some (.invokevirtual 314, 3, 205, 0, .null) := by decide +kernel
theorem zf265_5 : zg zc265 5 = some (.ifCond .ne 7, 3, 12, 0, .null) := by decide +kernel
theorem zf265_8 : zg zc265 8 = some (.sipush (-1000), 3, 0, 0, .null) := by decide +kernel
theorem zf265_11 : zg zc265 11 = some (.ireturn, 1, 0, 0, .null) := by decide +kernel
set_option maxRecDepth 20000 in
theorem hgm265 : zg zms 265 = some (4, (some .int), zc265) := rfl
theorem zf148_0 : zg zc148 0 = some (.aload_n 0, 1, 0, 0, .null) := by decide +kernel
theorem zf148_1 : zg zc148 1 = some (.getfield 37, 3, 10, 5, .null) := by decide +kernel
theorem zf148_4 : zg zc148 4 = some (.iload_n 1, 1, 0, 0, .null) := by decide +kernel
theorem zf148_5 : zg zc148 5 = some (.invokevirtual 141, 3, 83, 0, .null) := by decide +kernel
theorem zf148_8 : zg zc148 8 = some (.ifCond .eq 12, 3, 20, 0, .null) := by decide +kernel
theorem zf148_20 : zg zc148 20 = some (.iconst (-1), 1, 0, 0, .null) := by decide +kernel
theorem zf148_21 : zg zc148 21 = some (.ireturn, 1, 0, 0, .null) := by decide +kernel
set_option maxRecDepth 20000 in
theorem hgm148 : zg zms 148 = some (3, (some .int), zc148) := rfl
theorem zf267_0 : zg zc267 0 = some (.aload_n 0, 1, 0, 0, .null) := by decide +kernel
theorem zf267_1 : zg zc267 1 = some (.iload_n 1, 1, 0, 0, .null) := by decide +kernel
theorem zf267_2 : zg zc267 2 = some (.invokevirtual 301, 3, 206, 0, .null) := by decide +kernel
theorem zf267_5 : zg zc267 5 = some (.ifCond .eq 15, 3, 20, 0, .null) := by decide +kernel
theorem zf267_20 : zg zc267 20 = some (.iconst (-1), 1, 0, 0, .null) := by decide +kernel
theorem zf267_21 : zg zc267 21 = some (.ireturn, 1, 0, 0, .null) := by decide +kernel
set_option maxRecDepth 20000 in
theorem hgm267 : zg zms 267 = some (3, (some .int), zc267) := rfl
theorem zf149_0 : zg zc149 0 = some (.aload_n 0, 1, 0, 0, .null) := by decide +kernel
theorem zf149_1 : zg zc149 1 = some (.getfield 37, 3, 10, 5, .null) := by decide +kernel
theorem zf149_4 : zg zc149 4 = some (.invokevirtual 215, 3, 76, 0, .null) := by decide +kernel
theorem zf149_7 : zg zc149 7 = some (.ifCond .eq 11, 3, 18, 0, .null) := by decide +kernel
theorem zf149_18 : zg zc149 18 = some (.iconst (-1), 1, 0, 0, .null) := by decide +kernel
theorem zf149_19 : zg zc149 19 = some (.ireturn, 1, 0, 0, .null) := by decide +kernel
set_option maxRecDepth 20000 in
theorem hgm149 : zg zms 149 = some (3, (some .int), zc149) := rfl
theorem zf269_0 : zg zc269 0 = some (.aload_n 0, 1, 0, 0, .null) := by decide +kernel
theorem zf269_1 : zg zc269 1 = some (.invokevirtual 344, 3, 204, 0, .null) := by decide +kernel
theorem zf269_4 : zg zc269 4 = some (.ifCond .eq 11, 3, 15, 0, .null) := by decide +kernel
theorem zf269_15 : zg zc269 15 = some (.iconst (-1), 1, 0, 0, .null) := by decide +kernel
theorem zf269_16 : zg zc269 16 = some (.ireturn, 1, 0, 0, .null) := by decide +kernel
set_option maxRecDepth 20000 in
theorem hgm269 : zg zms 269 = some (4, (some .int), zc269) := rfl
theorem zf150_0 : zg zc150 0 = some (.aload_n 0, 1, 0, 0, .null) := by decide +kernel
theorem zf150_1 : zg zc150 1 = some (.getfield 37, 3, 10, 5, .null) := by decide +kernel
theorem zf150_4 : zg zc150 4 = some (.invokevirtual 215, 3, 76, 0, .null) := by decide +kernel
theorem zf150_7 : zg zc150 7 = some (.ifCond .eq 12, 3, 19, 0, .null) := by decide +kernel
theorem zf150_19 : zg zc150 19 = some (.iconst (-1), 1, 0, 0, .null) := by decide +kernel
theorem zf150_20 : zg zc150 20 = some (.ireturn, 1, 0, 0, .null) := by decide +kernel
set_option maxRecDepth 20000 in
theorem hgm150 : zg zms 150 = some (4, (some .int), zc150) := rfl
theorem zf272_0 : zg zc272 0 = some (.aload_n 0, 1, 0, 0, .null) := by decide +kernel
theorem zf272_1 : zg zc272 1 = some (.invokevirtual 344, 3, 204, 0, .null) := by decide +kernel
theorem zf272_4 : zg zc272 4 = some (.ifCond .eq 15, 3, 19, 0, .null) := by decide +kernel
theorem zf272_19 : zg zc272 19 = some (.iconst (-1), 1, 0, 0, .null) := by decide +kernel
theorem zf272_20 : zg zc272 20 = some (.ireturn, 1, 0, 0, .null) := by decide +kernel
set_option maxRecDepth 20000 in
theorem hgm272 : zg zms 272 = some (4, (some .int), zc272) := rfl
theorem zf153_0 : zg zc153 0 = some (.aload_n 0, 1, 0, 0, .null) := by decide +kernel
theorem zf153_1 : zg zc153 1 = some (.getfield 37, 3, 10, 5, .null) := by decide +kernel
theorem zf153_4 : zg zc153 4 = some (.invokevirtual 215, 3, 76, 0, .null) := by decide +kernel
theorem zf153_7 : zg zc153 7 = some (.ifCond .eq 34, 3, 41, 0, .null) := by decide +kernel
theorem zf153_41 : zg zc153 41 = some (.iconst (-1), 1, 0, 0, .null) := by decide +kernel
theorem zf153_42 : zg zc153 42 = some (.ireturn, 1, 0, 0, .null) := by decide +kernel
set_option maxRecDepth 20000 in
theorem hgm153 : zg zms 153 = some (9, (some .int), zc153) := rfl
theorem zf276_0 : zg zc276 0 = some (.aload_n 0, 1, 0, 0, .null) := by decide +kernel
theorem zf276_1 : zg zc276 1 = some (.invokevirtual 344, 3, 204, 0, .null) := by decide +kernel
theorem zf276_4 : zg zc276 4 = some (.ifCond .eq 37, 3, 41, 0, .null) := by decide +kernel
theorem zf276_41 : zg zc276 41 = some (.iconst (-1), 1, 0, 0, .null) := by decide +kernel
theorem zf276_42 : zg zc276 42 = some (.ireturn, 1, 0, 0, .null) := by decide +kernel
set_option maxRecDepth 20000 in
theorem hgm276 : zg zms 276 = some (8, (some .int), zc276) := rfl
theorem zf124_0 : zg zc124 0 = some (.iload_n 1, 1, 0, 0, .null) := by decide +kernel
theorem zf124_1 : zg zc124 1 = some (.ifCond .lt 11, 3, 12, 0, .null) := by decide +kernel
theorem zf124_12 : zg zc124 12 = some (.iconst (-1), 1, 0, 0, .null) := by decide +kernel
theorem zf124_13 : zg zc124 13 = some (.ireturn, 1, 0, 0, .null) := by decide +kernel
theorem zf124_4 : zg zc124 4 = some (.iload_n 1, 1, 0, 0, .null) := by decide +kernel
theorem zf124_5 : zg zc124 5 = some (.aload_n 0, 1, 0, 0, .null) := by decide +kernel
theorem zf124_6 : zg zc124 6 = some (.getfield 97, 3, 10, 1, .null) := by decide +kernel
theorem zf124_9 : zg zc124 9 = some (.if_icmp .le 5, 3, 14, 0, .null) := by decide +kernel
set_option maxRecDepth 20000 in
theorem hgm124 : zg zms 124 = some (2, (some .int), zc124) := rfl
theorem zf162_0 : zg zc162 0 = some (.iload_n 1, 1, 0, 0, .null) := by decide +kernel
theorem zf162_1 : zg zc162 1 = some (.ifCond .lt 11, 3, 12, 0, .null) := by decide +kernel
theorem zf162_12 : zg zc162 12 = some (.iconst (-1), 1, 0, 0, .null) := by decide +kernel
theorem zf162_13 : zg zc162 13 = some (.ireturn, 1, 0, 0, .null) := by decide +kernel
theorem zf162_4 : zg zc162 4 = some (.iload_n 1, 1, 0, 0, .null) := by decide +kernel
theorem zf162_5 : zg zc162 5 = some (.aload_n 0, 1, 0, 0, .null) := by decide +kernel
theorem zf162_6 : zg zc162 6 = some (.getfield 64, 3, 11, 1, .null) := by decide +kernel
theorem zf162_9 : zg zc162 9 = some (.if_icmp .le 5, 3, 14, 0, .null) := by decide +kernel
set_option maxRecDepth 20000 in
theorem hgm162 : zg zms 162 = some (2, (some .int), zc162) := rfl
theorem zf154_0 : zg zc154 0 = some (.iload_n 1, 1, 0, 0, .null) := by decide +kernel
theorem zf154_1 : zg zc154 1 = some (.tableswitch 153 0 11 #[63, 71, 79, 87, 95, 100, 108, 116, 124, 132, 140, 148], 63, 0, 0, .null) := by decide +kernel
theorem zf154_154 : zg zc154 154 = some (.iconst (-1), 1, 0, 0, .null) := by decide +kernel
theorem zf154_155 : zg zc154 155 = some (.ireturn, 1, 0, 0, .null) := by decide +kernel
set_option maxRecDepth 20000 in
theorem hgm154 : zg zms 154 = some (2, (some .int), zc154) := rfl
theorem zf277_0 : zg zc277 0 = some (.iconst 0, 1, 0, 0, .null) := by decide +kernel
theorem zf277_1 : zg zc277 1 = some (.istore_n 2, 1, 0, 0, .null) := by decide +kernel
theorem zf277_2 : zg zc277 2 = some (.iload_n 1, 1, 0, 0, .null) := by decide +kernel
theorem zf277_3 : zg zc277 3 = some (.tableswitch 168 0 11 #[61, 61, 61, 61, 68, 73, 80, 87, 125, 153, 158, 163], 61, 0, 0, .null) := by decide +kernel
theorem zf277_171 : zg zc277 171 = some (.iconst (-1), 1, 0, 0, .null) := by decide +kernel
theorem zf277_172 : zg zc277 172 = some (.ireturn, 1, 0, 0, .null) := by decide +kernel
set_option maxRecDepth 20000 in
theorem hgm277 : zg zms 277 = some (4, (some .int), zc277) := rfl
theorem zf155_0 : zg zc155 0 = some (.iload_n 1, 1, 0, 0, .null) := by decide +kernel
theorem zf155_1 : zg zc155 1 = some (.ifCond .lt 8, 3, 9, 0, .null) := by decide +kernel
theorem zf155_9 : zg zc155 9 = some (.iconst (-1), 1, 0, 0, .null) := by decide +kernel
theorem zf155_10 : zg zc155 10 = some (.ireturn, 1, 0, 0, .null) := by decide +kernel
theorem zf155_4 : zg zc155 4 = some (.iload_n 1, 1, 0, 0, .null) := by decide +kernel
theorem zf155_5 : zg zc155 5 = some (.iconst 4, 1, 0, 0, .null) := by decide +kernel
theorem zf155_6 : zg zc155 6 = some (.if_icmp .lt 5, 3, 11, 0, .null) := by decide +kernel
set_option maxRecDepth 20000 in
theorem hgm155 : zg zms 155 = some (2, (some .int), zc155) := rfl
theorem zf278_0 : zg zc278 0 = some (.iload_n 1, 1, 0, 0, .null) := by decide +kernel
theorem zf278_1 : zg zc278 1 = some (.i2l, 1, 0, 0, .null) := by decide +kernel
theorem zf156_0 : zg zc156 0 = some (.iload_n 1, 1, 0, 0, .null) := by decide +kernel
theorem zf156_1 : zg zc156 1 = some (.ifCond .lt 17, 3, 18, 0, .null) := by decide +kernel
theorem zf156_18 : zg zc156 18 = some (.iconst (-1), 1, 0, 0, .null) := by decide +kernel
theorem zf156_19 : zg zc156 19 = some (.ireturn, 1, 0, 0, .null) := by decide +kernel
theorem zf156_4 : zg zc156 4 = some (.iload_n 1, 1, 0, 0, .null) := by decide +kernel
theorem zf156_5 : zg zc156 5 = some (.iconst 4, 1, 0, 0, .null) := by decide +kernel
theorem zf156_6 : zg zc156 6 = some (.if_icmp .ge 12, 3, 18, 0, .null) := by decide +kernel
set_option maxRecDepth 20000 in
theorem hgm156 : zg zms 156 = some (2, (some .int), zc156) := rfl
theorem zf279_0 : zg zc279 0 = some (.iload_n 1, 1, 0, 0, .null) := by decide +kernel
theorem zf279_1 : zg zc279 1 = some (.i2l, 1, 0, 0, .null) := by decide +kernel
set_option maxRecDepth 20000 in
theorem hgm158 : zg zms 158 = some (6, (some .boolean), zc158) := rfl
theorem zf158_0 : zg zc158 0 = some (.lload_n 0, 1, 0, 0, .null) := by decide +kernel
theorem zf158_1 : zg zc158 1 = some (.lload_n 2, 1, 0, 0, .null) := by decide +kernel
theorem zf158_2 : zg zc158 2 = some (.lcmp, 1, 0, 0, .null) := by decide +kernel
theorem zf158_3 : zg zc158 3 = some (.ifCond .lt 14, 3, 17, 0, .null) := by decide +kernel
theorem zf158_17 : zg zc158 17 = some (.iconst 0, 1, 0, 0, .null) := by decide +kernel
theorem zf158_18 : zg zc158 18 = some (.ireturn, 1, 0, 0, .null) := by decide +kernel
theorem zf158_6 : zg zc158 6 = some (.lload_n 0, 1, 0, 0, .null) := by decide +kernel
theorem zf158_7 : zg zc158 7 = some (.lload 4, 2, 0, 0, .null) := by decide +kernel
theorem zf158_9 : zg zc158 9 = some (.lcmp, 1, 0, 0, .null) := by decide +kernel
theorem zf158_10 : zg zc158 10 = some (.ifCond .gt 7, 3, 17, 0, .null) := by decide +kernel
set_option maxRecDepth 20000 in
theorem hgm278 : zg zms 278 = some (3, (some .int), zc278) := rfl
theorem zf278_2 : zg zc278 2 = some (.lconst 0, 1, 0, 0, .null) := by decide +kernel
theorem zf278_3 : zg zc278 3 = some (.ldc2_w 491, 3, 0, 0, .long 3) := by decide +kernel
theorem zf278_6 : zg zc278 6 = some (.invokestatic 103, 3, 158, 1, .null) := by decide +kernel
theorem har158 : zar 158 = (3, 200) := by decide +kernel
theorem zf278_9 : zg zc278 9 = some (.ifCond .ne 5, 3, 14, 0, .null) := by decide +kernel
theorem zf278_12 : zg zc278 12 = some (.iconst (-1), 1, 0, 0, .null) := by decide +kernel
theorem zf278_13 : zg zc278 13 = some (.ireturn, 1, 0, 0, .null) := by decide +kernel
set_option maxRecDepth 20000 in
theorem hgm279 : zg zms 279 = some (3, (some .int), zc279) := rfl
theorem zf279_2 : zg zc279 2 = some (.lconst 0, 1, 0, 0, .null) := by decide +kernel
theorem zf279_3 : zg zc279 3 = some (.ldc2_w 491, 3, 0, 0, .long 3) := by decide +kernel
theorem zf279_6 : zg zc279 6 = some (.invokestatic 103, 3, 158, 1, .null) := by decide +kernel
theorem zf279_9 : zg zc279 9 = some (.ifCond .eq 12, 3, 21, 0, .null) := by decide +kernel
theorem zf279_21 : zg zc279 21 = some (.iconst (-1), 1, 0, 0, .null) := by decide +kernel
theorem zf279_22 : zg zc279 22 = some (.ireturn, 1, 0, 0, .null) := by decide +kernel
theorem Hc43 : hpC.2 43 = .inr (1, [.int 0]) := zob_eq (by decide +kernel)
theorem hc43 {hp : zHp} (F : zFr0 hp) : hp.2 43 = .inr (1, [.int 0]) := by rw [show hp = hpC from F]; exact Hc43
theorem Hl43 : (43 : Nat) < hpC.1 := by decide +kernel
theorem hl43 {hp : zHp} (F : zFr0 hp) : (43 : Nat) < hp.1 := by rw [show hp = hpC from F]; exact Hl43
set_option maxRecDepth 20000 in
theorem hgm152 : zg zms 152 = some (3, (some .int), zc152) := rfl
theorem zf152_0 : zg zc152 0 = some (.iload_n 1, 1, 0, 0, .null) := by decide +kernel
theorem zf152_1 : zg zc152 1 = some (.ifCond .ge 5, 3, 6, 0, .null) := by decide +kernel
theorem zf152_4 : zg zc152 4 = some (.iconst (-1), 1, 0, 0, .null) := by decide +kernel
theorem zf152_5 : zg zc152 5 = some (.ireturn, 1, 0, 0, .null) := by decide +kernel
theorem zf152_6 : zg zc152 6 = some (.aload_n 0, 1, 0, 0, .null) := by decide +kernel
theorem zf152_7 : zg zc152 7 = some (.getfield 72, 3, 10, 13, .null) := by decide +kernel
theorem zf152_10 : zg zc152 10 = some (.getfield 310, 3, 1, 0, .null) := by decide +kernel
theorem zf152_13 : zg zc152 13 = some (.istore_n 2, 1, 0, 0, .null) := by decide +kernel
theorem zf152_14 : zg zc152 14 = some (.aload_n 0, 1, 0, 0, .null) := by decide +kernel
theorem zf152_15 : zg zc152 15 = some (.getfield 72, 3, 10, 13, .null) := by decide +kernel
theorem zf152_18 : zg zc152 18 = some (.iload_n 1, 1, 0, 0, .null) := by decide +kernel
theorem zf152_19 : zg zc152 19 = some (.putfield 310, 3, 1, 0, .null) := by decide +kernel
theorem zf152_22 : zg zc152 22 = some (.iload_n 2, 1, 0, 0, .null) := by decide +kernel
theorem zf152_23 : zg zc152 23 = some (.ireturn, 1, 0, 0, .null) := by decide +kernel
set_option maxRecDepth 20000 in
theorem hgm273 : zg zms 273 = some (3, (some .int), zc273) := rfl
theorem zf273_0 : zg zc273 0 = some (.iload_n 1, 1, 0, 0, .null) := by decide +kernel
theorem zf273_1 : zg zc273 1 = some (.ifCond .ge 5, 3, 6, 0, .null) := by decide +kernel
theorem zf273_4 : zg zc273 4 = some (.iconst (-1), 1, 0, 0, .null) := by decide +kernel
theorem zf273_5 : zg zc273 5 = some (.ireturn, 1, 0, 0, .null) := by decide +kernel
theorem zf273_6 : zg zc273 6 = some (.aload_n 0, 1, 0, 0, .null) := by decide +kernel
theorem zf273_7 : zg zc273 7 = some (.getfield 468, 3, 11, 23, .null) := by decide +kernel
theorem zf273_10 : zg zc273 10 = some (.istore_n 2, 1, 0, 0, .null) := by decide +kernel
theorem zf273_11 : zg zc273 11 = some (.aload_n 0, 1, 0, 0, .null) := by decide +kernel
theorem zf273_12 : zg zc273 12 = some (.iload_n 1, 1, 0, 0, .null) := by decide +kernel
theorem zf273_13 : zg zc273 13 = some (.putfield 468, 3, 11, 23, .null) := by decide +kernel
theorem zf273_16 : zg zc273 16 = some (.iload_n 2, 1, 0, 0, .null) := by decide +kernel
theorem zf273_17 : zg zc273 17 = some (.ireturn, 1, 0, 0, .null) := by decide +kernel
theorem zf123_7 : zg zc123 7 = some (.aload_n 0, 1, 0, 0, .null) := by decide +kernel
theorem zf123_8 : zg zc123 8 = some (.getfield 97, 3, 10, 1, .null) := by decide +kernel
theorem zf123_11 : zg zc123 11 = some (.sipush 400, 3, 0, 0, .null) := by decide +kernel
theorem zf123_14 : zg zc123 14 = some (.if_icmp .ge 29, 3, 43, 0, .null) := by decide +kernel
theorem zf123_17 : zg zc123 17 = some (.aload_n 0, 1, 0, 0, .null) := by decide +kernel
theorem zf123_18 : zg zc123 18 = some (.getfield 9, 3, 10, 0, .null) := by decide +kernel
theorem zf123_21 : zg zc123 21 = some (.aload_n 0, 1, 0, 0, .null) := by decide +kernel
theorem zf123_22 : zg zc123 22 = some (.getfield 97, 3, 10, 1, .null) := by decide +kernel
theorem zf123_25 : zg zc123 25 = some (.iload_n 1, 1, 0, 0, .null) := by decide +kernel
theorem zf123_26 : zg zc123 26 = some (.iload_n 2, 1, 0, 0, .null) := by decide +kernel
theorem zf123_27 : zg zc123 27 = some (.iushr, 1, 0, 0, .null) := by decide +kernel
theorem zf123_28 : zg zc123 28 = some (.sipush 255, 3, 0, 0, .null) := by decide +kernel
theorem zf123_31 : zg zc123 31 = some (.iand, 1, 0, 0, .null) := by decide +kernel
theorem zf123_32 : zg zc123 32 = some (.iastore, 1, 0, 0, .null) := by decide +kernel
theorem zf123_33 : zg zc123 33 = some (.aload_n 0, 1, 0, 0, .null) := by decide +kernel
theorem zf123_34 : zg zc123 34 = some (.dup, 1, 0, 0, .null) := by decide +kernel
theorem zf123_35 : zg zc123 35 = some (.getfield 97, 3, 10, 1, .null) := by decide +kernel
theorem zf123_38 : zg zc123 38 = some (.iconst 1, 1, 0, 0, .null) := by decide +kernel
theorem zf123_39 : zg zc123 39 = some (.iadd, 1, 0, 0, .null) := by decide +kernel
theorem zf123_40 : zg zc123 40 = some (.putfield 97, 3, 10, 1, .null) := by decide +kernel
set_option maxRecDepth 20000 in
theorem hgm123 : zg zms 123 = some (3, none, zc123) := rfl
theorem zf123_0 : zg zc123 0 = some (.bipush 24, 2, 0, 0, .null) := by decide +kernel
theorem zf123_2 : zg zc123 2 = some (.istore_n 2, 1, 0, 0, .null) := by decide +kernel
theorem zf123_3 : zg zc123 3 = some (.iload_n 2, 1, 0, 0, .null) := by decide +kernel
theorem zf123_4 : zg zc123 4 = some (.ifCond .lt 45, 3, 49, 0, .null) := by decide +kernel
theorem zf123_43 : zg zc123 43 = some (.iinc 2 (-8), 3, 0, 0, .null) := by decide +kernel
theorem zf123_46 : zg zc123 46 = some (.goto (-43), 3, 3, 0, .null) := by decide +kernel
theorem zf123_49 : zg zc123 49 = some (.return_, 1, 0, 0, .null) := by decide +kernel
theorem zf160_7 : zg zc160 7 = some (.aload_n 0, 1, 0, 0, .null) := by decide +kernel
theorem zf160_8 : zg zc160 8 = some (.getfield 7, 3, 11, 0, .null) := by decide +kernel
theorem zf160_11 : zg zc160 11 = some (.aload_n 0, 1, 0, 0, .null) := by decide +kernel
theorem zf160_12 : zg zc160 12 = some (.getfield 64, 3, 11, 1, .null) := by decide +kernel
theorem zf160_15 : zg zc160 15 = some (.iload_n 1, 1, 0, 0, .null) := by decide +kernel
theorem zf160_16 : zg zc160 16 = some (.iload_n 2, 1, 0, 0, .null) := by decide +kernel
theorem zf160_17 : zg zc160 17 = some (.ishr, 1, 0, 0, .null) := by decide +kernel
theorem zf160_18 : zg zc160 18 = some (.i2b, 1, 0, 0, .null) := by decide +kernel
theorem zf160_19 : zg zc160 19 = some (.bastore, 1, 0, 0, .null) := by decide +kernel
theorem zf160_20 : zg zc160 20 = some (.aload_n 0, 1, 0, 0, .null) := by decide +kernel
theorem zf160_21 : zg zc160 21 = some (.dup, 1, 0, 0, .null) := by decide +kernel
theorem zf160_22 : zg zc160 22 = some (.getfield 64, 3, 11, 1, .null) := by decide +kernel
theorem zf160_25 : zg zc160 25 = some (.iconst 1, 1, 0, 0, .null) := by decide +kernel
theorem zf160_26 : zg zc160 26 = some (.iadd, 1, 0, 0, .null) := by decide +kernel
theorem zf160_27 : zg zc160 27 = some (.putfield 64, 3, 11, 1, .null) := by decide +kernel
set_option maxRecDepth 20000 in
theorem hgm160 : zg zms 160 = some (3, none, zc160) := rfl
theorem zf160_0 : zg zc160 0 = some (.bipush 24, 2, 0, 0, .null) := by decide +kernel
theorem zf160_2 : zg zc160 2 = some (.istore_n 2, 1, 0, 0, .null) := by decide +kernel
theorem zf160_3 : zg zc160 3 = some (.iload_n 2, 1, 0, 0, .null) := by decide +kernel
theorem zf160_4 : zg zc160 4 = some (.ifCond .lt 32, 3, 36, 0, .null) := by decide +kernel
theorem zf160_30 : zg zc160 30 = some (.iinc 2 (-8), 3, 0, 0, .null) := by decide +kernel
theorem zf160_33 : zg zc160 33 = some (.goto (-30), 3, 3, 0, .null) := by decide +kernel
theorem zf160_36 : zg zc160 36 = some (.return_, 1, 0, 0, .null) := by decide +kernel
set_option maxRecDepth 20000 in
theorem hgm122 : zg zms 122 = some (6, (some .int), zc122) := rfl
theorem zf122_0 : zg zc122 0 = some (.aload_n 0, 1, 0, 0, .null) := by decide +kernel
theorem zf122_1 : zg zc122 1 = some (.getfield 97, 3, 10, 1, .null) := by decide +kernel
theorem zf122_4 : zg zc122 4 = some (.bipush 20, 2, 0, 0, .null) := by decide +kernel
theorem zf122_6 : zg zc122 6 = some (.iadd, 1, 0, 0, .null) := by decide +kernel
theorem zf122_7 : zg zc122 7 = some (.sipush 400, 3, 0, 0, .null) := by decide +kernel
theorem zf122_10 : zg zc122 10 = some (.if_icmp .le 5, 3, 15, 0, .null) := by decide +kernel
theorem zf122_15 : zg zc122 15 = some (.aload_n 0, 1, 0, 0, .null) := by decide +kernel
theorem zf122_16 : zg zc122 16 = some (.iload_n 1, 1, 0, 0, .null) := by decide +kernel
theorem zf122_17 : zg zc122 17 = some (.invokevirtual 101, 3, 123, 0, .null) := by decide +kernel
theorem har123 : zar 123 = (1, 10) := by decide +kernel
theorem zf122_20 : zg zc122 20 = some (.aload_n 0, 1, 0, 0, .null) := by decide +kernel
theorem zf122_21 : zg zc122 21 = some (.iload_n 2, 1, 0, 0, .null) := by decide +kernel
theorem zf122_22 : zg zc122 22 = some (.invokevirtual 101, 3, 123, 0, .null) := by decide +kernel
theorem zf122_25 : zg zc122 25 = some (.aload_n 0, 1, 0, 0, .null) := by decide +kernel
theorem zf122_26 : zg zc122 26 = some (.iload_n 3, 1, 0, 0, .null) := by decide +kernel
theorem zf122_27 : zg zc122 27 = some (.invokevirtual 101, 3, 123, 0, .null) := by decide +kernel
theorem zf122_30 : zg zc122 30 = some (.aload_n 0, 1, 0, 0, .null) := by decide +kernel
theorem zf122_31 : zg zc122 31 = some (.iload 4, 2, 0, 0, .null) := by decide +kernel
theorem zf122_33 : zg zc122 33 = some (.invokevirtual 101, 3, 123, 0, .null) := by decide +kernel
theorem zf122_36 : zg zc122 36 = some (.aload_n 0, 1, 0, 0, .null) := by decide +kernel
theorem zf122_37 : zg zc122 37 = some (.iload 5, 2, 0, 0, .null) := by decide +kernel
theorem zf122_39 : zg zc122 39 = some (.invokevirtual 101, 3, 123, 0, .null) := by decide +kernel
theorem zf122_42 : zg zc122 42 = some (.aload_n 0, 1, 0, 0, .null) := by decide +kernel
theorem zf122_43 : zg zc122 43 = some (.getfield 97, 3, 10, 1, .null) := by decide +kernel
theorem zf122_46 : zg zc122 46 = some (.ireturn, 1, 0, 0, .null) := by decide +kernel
set_option maxRecDepth 20000 in
theorem hgm161 : zg zms 161 = some (6, (some .int), zc161) := rfl
theorem zf161_0 : zg zc161 0 = some (.aload_n 0, 1, 0, 0, .null) := by decide +kernel
theorem zf161_1 : zg zc161 1 = some (.getfield 64, 3, 11, 1, .null) := by decide +kernel
theorem zf161_4 : zg zc161 4 = some (.bipush 20, 2, 0, 0, .null) := by decide +kernel
theorem zf161_6 : zg zc161 6 = some (.iadd, 1, 0, 0, .null) := by decide +kernel
theorem zf161_7 : zg zc161 7 = some (.sipush 400, 3, 0, 0, .null) := by decide +kernel
theorem zf161_10 : zg zc161 10 = some (.if_icmp .le 5, 3, 15, 0, .null) := by decide +kernel
theorem zf161_15 : zg zc161 15 = some (.aload_n 0, 1, 0, 0, .null) := by decide +kernel
theorem zf161_16 : zg zc161 16 = some (.iload_n 1, 1, 0, 0, .null) := by decide +kernel
theorem zf161_17 : zg zc161 17 = some (.invokevirtual 68, 3, 160, 0, .null) := by decide +kernel
theorem har160 : zar 160 = (1, 11) := by decide +kernel
theorem zf161_20 : zg zc161 20 = some (.aload_n 0, 1, 0, 0, .null) := by decide +kernel
theorem zf161_21 : zg zc161 21 = some (.iload_n 2, 1, 0, 0, .null) := by decide +kernel
theorem zf161_22 : zg zc161 22 = some (.invokevirtual 68, 3, 160, 0, .null) := by decide +kernel
theorem zf161_25 : zg zc161 25 = some (.aload_n 0, 1, 0, 0, .null) := by decide +kernel
theorem zf161_26 : zg zc161 26 = some (.iload_n 3, 1, 0, 0, .null) := by decide +kernel
theorem zf161_27 : zg zc161 27 = some (.invokevirtual 68, 3, 160, 0, .null) := by decide +kernel
theorem zf161_30 : zg zc161 30 = some (.aload_n 0, 1, 0, 0, .null) := by decide +kernel
theorem zf161_31 : zg zc161 31 = some (.iload 4, 2, 0, 0, .null) := by decide +kernel
theorem zf161_33 : zg zc161 33 = some (.invokevirtual 68, 3, 160, 0, .null) := by decide +kernel
theorem zf161_36 : zg zc161 36 = some (.aload_n 0, 1, 0, 0, .null) := by decide +kernel
theorem zf161_37 : zg zc161 37 = some (.iload 5, 2, 0, 0, .null) := by decide +kernel
theorem zf161_39 : zg zc161 39 = some (.invokevirtual 68, 3, 160, 0, .null) := by decide +kernel
theorem zf161_42 : zg zc161 42 = some (.aload_n 0, 1, 0, 0, .null) := by decide +kernel
theorem zf161_43 : zg zc161 43 = some (.getfield 64, 3, 11, 1, .null) := by decide +kernel
theorem zf161_46 : zg zc161 46 = some (.ireturn, 1, 0, 0, .null) := by decide +kernel
theorem Hc1 : hpC.2 1 = .inl (0, 400, .inl (zaf (hpC.2 1))) := zai_eq (by decide +kernel)
theorem hc1 {hp : zHp} (F : zFr0 hp) : hp.2 1 = .inl (0, 400, .inl (zaf (hp.2 1))) := by rw [show hp = hpC from F]; exact Hc1
theorem Hc71 : hpC.2 71 = .inl (1, 400, .inl (zaf (hpC.2 71))) := zai_eq (by decide +kernel)
theorem hc71 {hp : zHp} (F : zFr0 hp) : hp.2 71 = .inl (1, 400, .inl (zaf (hp.2 71))) := by rw [show hp = hpC from F]; exact Hc71
theorem Hl1 : (1 : Nat) < hpC.1 := by decide +kernel
theorem hl1 {hp : zHp} (F : zFr0 hp) : (1 : Nat) < hp.1 := by rw [show hp = hpC from F]; exact Hl1
theorem Hl71 : (71 : Nat) < hpC.1 := by decide +kernel
theorem hl71 {hp : zHp} (F : zFr0 hp) : (71 : Nat) < hp.1 := by rw [show hp = hpC from F]; exact Hl71
theorem Hk0 : zKd 0 hpC = some 10 := by decide +kernel
theorem hk0 {hp : zHp} (F : zFr0 hp) : zKd 0 hp = some 10 := by rw [show hp = hpC from F]; exact Hk0
theorem zfL_172 : zg zcL 172 = some (.aload_n 1, 1, 0, 0, .null) := by decide +kernel
theorem zfL_173 : zg zcL 173 = some (.aload_n 0, 1, 0, 0, .null) := by decide +kernel
theorem zfL_174 : zg zcL 174 = some (.iload_n 3, 1, 0, 0, .null) := by decide +kernel
theorem zfL_175 : zg zcL 175 = some (.iconst 1, 1, 0, 0, .null) := by decide +kernel
theorem zfL_176 : zg zcL 176 = some (.iadd, 1, 0, 0, .null) := by decide +kernel
theorem zfL_177 : zg zcL 177 = some (.iaload, 1, 0, 0, .null) := by decide +kernel
theorem zfL_178 : zg zcL 178 = some (.aload_n 0, 1, 0, 0, .null) := by decide +kernel
theorem zfL_179 : zg zcL 179 = some (.iload_n 3, 1, 0, 0, .null) := by decide +kernel
theorem zfL_180 : zg zcL 180 = some (.iconst 2, 1, 0, 0, .null) := by decide +kernel
theorem zfL_181 : zg zcL 181 = some (.iadd, 1, 0, 0, .null) := by decide +kernel
theorem zfL_182 : zg zcL 182 = some (.iaload, 1, 0, 0, .null) := by decide +kernel
theorem zfL_183 : zg zcL 183 = some (.aload_n 0, 1, 0, 0, .null) := by decide +kernel
theorem zfL_184 : zg zcL 184 = some (.iload_n 3, 1, 0, 0, .null) := by decide +kernel
theorem zfL_185 : zg zcL 185 = some (.iconst 3, 1, 0, 0, .null) := by decide +kernel
theorem zfL_186 : zg zcL 186 = some (.iadd, 1, 0, 0, .null) := by decide +kernel
theorem zfL_187 : zg zcL 187 = some (.iaload, 1, 0, 0, .null) := by decide +kernel
theorem zfL_188 : zg zcL 188 = some (.aload_n 0, 1, 0, 0, .null) := by decide +kernel
theorem zfL_189 : zg zcL 189 = some (.iload_n 3, 1, 0, 0, .null) := by decide +kernel
theorem zfL_190 : zg zcL 190 = some (.iconst 4, 1, 0, 0, .null) := by decide +kernel
theorem zfL_191 : zg zcL 191 = some (.iadd, 1, 0, 0, .null) := by decide +kernel
theorem zfL_192 : zg zcL 192 = some (.iaload, 1, 0, 0, .null) := by decide +kernel
theorem zfL_193 : zg zcL 193 = some (.aload_n 0, 1, 0, 0, .null) := by decide +kernel
theorem zfL_194 : zg zcL 194 = some (.iload_n 3, 1, 0, 0, .null) := by decide +kernel
theorem zfL_195 : zg zcL 195 = some (.iconst 5, 1, 0, 0, .null) := by decide +kernel
theorem zfL_196 : zg zcL 196 = some (.iadd, 1, 0, 0, .null) := by decide +kernel
theorem zfL_197 : zg zcL 197 = some (.iaload, 1, 0, 0, .null) := by decide +kernel
theorem zfL_198 : zg zcL 198 = some (.invokevirtual 13, 3, 122, 0, .null) := by decide +kernel
theorem har122 : zar 122 = (5, 10) := by decide +kernel
theorem zfL_201 : zg zcL 201 = some (.aload_n 2, 1, 0, 0, .null) := by decide +kernel
theorem zfL_202 : zg zcL 202 = some (.aload_n 0, 1, 0, 0, .null) := by decide +kernel
theorem zfL_203 : zg zcL 203 = some (.iload_n 3, 1, 0, 0, .null) := by decide +kernel
theorem zfL_204 : zg zcL 204 = some (.iconst 1, 1, 0, 0, .null) := by decide +kernel
theorem zfL_205 : zg zcL 205 = some (.iadd, 1, 0, 0, .null) := by decide +kernel
theorem zfL_206 : zg zcL 206 = some (.iaload, 1, 0, 0, .null) := by decide +kernel
theorem zfL_207 : zg zcL 207 = some (.aload_n 0, 1, 0, 0, .null) := by decide +kernel
theorem zfL_208 : zg zcL 208 = some (.iload_n 3, 1, 0, 0, .null) := by decide +kernel
theorem zfL_209 : zg zcL 209 = some (.iconst 2, 1, 0, 0, .null) := by decide +kernel
theorem zfL_210 : zg zcL 210 = some (.iadd, 1, 0, 0, .null) := by decide +kernel
theorem zfL_211 : zg zcL 211 = some (.iaload, 1, 0, 0, .null) := by decide +kernel
theorem zfL_212 : zg zcL 212 = some (.aload_n 0, 1, 0, 0, .null) := by decide +kernel
theorem zfL_213 : zg zcL 213 = some (.iload_n 3, 1, 0, 0, .null) := by decide +kernel
theorem zfL_214 : zg zcL 214 = some (.iconst 3, 1, 0, 0, .null) := by decide +kernel
theorem zfL_215 : zg zcL 215 = some (.iadd, 1, 0, 0, .null) := by decide +kernel
theorem zfL_216 : zg zcL 216 = some (.iaload, 1, 0, 0, .null) := by decide +kernel
theorem zfL_217 : zg zcL 217 = some (.aload_n 0, 1, 0, 0, .null) := by decide +kernel
theorem zfL_218 : zg zcL 218 = some (.iload_n 3, 1, 0, 0, .null) := by decide +kernel
theorem zfL_219 : zg zcL 219 = some (.iconst 4, 1, 0, 0, .null) := by decide +kernel
theorem zfL_220 : zg zcL 220 = some (.iadd, 1, 0, 0, .null) := by decide +kernel
theorem zfL_221 : zg zcL 221 = some (.iaload, 1, 0, 0, .null) := by decide +kernel
theorem zfL_222 : zg zcL 222 = some (.aload_n 0, 1, 0, 0, .null) := by decide +kernel
theorem zfL_223 : zg zcL 223 = some (.iload_n 3, 1, 0, 0, .null) := by decide +kernel
theorem zfL_224 : zg zcL 224 = some (.iconst 5, 1, 0, 0, .null) := by decide +kernel
theorem zfL_225 : zg zcL 225 = some (.iadd, 1, 0, 0, .null) := by decide +kernel
theorem zfL_226 : zg zcL 226 = some (.iaload, 1, 0, 0, .null) := by decide +kernel
theorem zfL_227 : zg zcL 227 = some (.invokevirtual 17, 3, 161, 0, .null) := by decide +kernel
theorem har161 : zar 161 = (5, 11) := by decide +kernel
theorem zfL_230 : zg zcL 230 = some (.if_icmp .eq 811, 3, 1041, 0, .null) := by decide +kernel
theorem zfL_235 : zg zcL 235 = some (.aload_n 1, 1, 0, 0, .null) := by decide +kernel
theorem zfL_236 : zg zcL 236 = some (.aload_n 0, 1, 0, 0, .null) := by decide +kernel
theorem zfL_237 : zg zcL 237 = some (.iload_n 3, 1, 0, 0, .null) := by decide +kernel
theorem zfL_238 : zg zcL 238 = some (.iconst 1, 1, 0, 0, .null) := by decide +kernel
theorem zfL_239 : zg zcL 239 = some (.iadd, 1, 0, 0, .null) := by decide +kernel
theorem zfL_240 : zg zcL 240 = some (.iaload, 1, 0, 0, .null) := by decide +kernel
theorem zfL_241 : zg zcL 241 = some (.invokevirtual 18, 3, 124, 0, .null) := by decide +kernel
theorem har124 : zar 124 = (1, 10) := by decide +kernel
theorem zfL_244 : zg zcL 244 = some (.aload_n 2, 1, 0, 0, .null) := by decide +kernel
theorem zfL_245 : zg zcL 245 = some (.aload_n 0, 1, 0, 0, .null) := by decide +kernel
theorem zfL_246 : zg zcL 246 = some (.iload_n 3, 1, 0, 0, .null) := by decide +kernel
theorem zfL_247 : zg zcL 247 = some (.iconst 1, 1, 0, 0, .null) := by decide +kernel
theorem zfL_248 : zg zcL 248 = some (.iadd, 1, 0, 0, .null) := by decide +kernel
theorem zfL_249 : zg zcL 249 = some (.iaload, 1, 0, 0, .null) := by decide +kernel
theorem zfL_250 : zg zcL 250 = some (.invokevirtual 22, 3, 162, 0, .null) := by decide +kernel
theorem har162 : zar 162 = (1, 11) := by decide +kernel
theorem zfL_253 : zg zcL 253 = some (.if_icmp .eq 788, 3, 1041, 0, .null) := by decide +kernel
theorem zfL_258 : zg zcL 258 = some (.aload_n 1, 1, 0, 0, .null) := by decide +kernel
theorem zfL_259 : zg zcL 259 = some (.invokevirtual 23, 3, 125, 0, .null) := by decide +kernel
theorem har125 : zar 125 = (0, 10) := by decide +kernel
theorem zfL_262 : zg zcL 262 = some (.aload_n 2, 1, 0, 0, .null) := by decide +kernel
theorem zfL_263 : zg zcL 263 = some (.invokevirtual 27, 3, 198, 0, .null) := by decide +kernel
theorem har198 : zar 198 = (0, 11) := by decide +kernel
theorem zfL_266 : zg zcL 266 = some (.if_icmp .eq 775, 3, 1041, 0, .null) := by decide +kernel
theorem zfL_271 : zg zcL 271 = some (.aload_n 1, 1, 0, 0, .null) := by decide +kernel
theorem zfL_272 : zg zcL 272 = some (.invokevirtual 28, 3, 126, 0, .null) := by decide +kernel
theorem har126 : zar 126 = (0, 10) := by decide +kernel
theorem zfL_275 : zg zcL 275 = some (.aload_n 2, 1, 0, 0, .null) := by decide +kernel
theorem zfL_276 : zg zcL 276 = some (.invokevirtual 31, 3, 197, 0, .null) := by decide +kernel
theorem har197 : zar 197 = (0, 11) := by decide +kernel
theorem zfL_279 : zg zcL 279 = some (.if_icmp .eq 762, 3, 1041, 0, .null) := by decide +kernel
theorem zfL_284 : zg zcL 284 = some (.aload_n 1, 1, 0, 0, .null) := by decide +kernel
theorem zfL_285 : zg zcL 285 = some (.aload_n 0, 1, 0, 0, .null) := by decide +kernel
theorem zfL_286 : zg zcL 286 = some (.iload_n 3, 1, 0, 0, .null) := by decide +kernel
theorem zfL_287 : zg zcL 287 = some (.iconst 1, 1, 0, 0, .null) := by decide +kernel
theorem zfL_288 : zg zcL 288 = some (.iadd, 1, 0, 0, .null) := by decide +kernel
theorem zfL_289 : zg zcL 289 = some (.iaload, 1, 0, 0, .null) := by decide +kernel
theorem zfL_290 : zg zcL 290 = some (.aload_n 0, 1, 0, 0, .null) := by decide +kernel
theorem zfL_291 : zg zcL 291 = some (.iload_n 3, 1, 0, 0, .null) := by decide +kernel
theorem zfL_292 : zg zcL 292 = some (.iconst 2, 1, 0, 0, .null) := by decide +kernel
theorem zfL_293 : zg zcL 293 = some (.iadd, 1, 0, 0, .null) := by decide +kernel
theorem zfL_294 : zg zcL 294 = some (.iaload, 1, 0, 0, .null) := by decide +kernel
theorem zfL_295 : zg zcL 295 = some (.invokevirtual 32, 3, 128, 0, .null) := by decide +kernel
theorem har128 : zar 128 = (2, 10) := by decide +kernel
theorem zfL_298 : zg zcL 298 = some (.aload_n 2, 1, 0, 0, .null) := by decide +kernel
theorem zfL_299 : zg zcL 299 = some (.aload_n 0, 1, 0, 0, .null) := by decide +kernel
theorem zfL_300 : zg zcL 300 = some (.iload_n 3, 1, 0, 0, .null) := by decide +kernel
theorem zfL_301 : zg zcL 301 = some (.iconst 1, 1, 0, 0, .null) := by decide +kernel
theorem zfL_302 : zg zcL 302 = some (.iadd, 1, 0, 0, .null) := by decide +kernel
theorem zfL_303 : zg zcL 303 = some (.iaload, 1, 0, 0, .null) := by decide +kernel
theorem zfL_304 : zg zcL 304 = some (.aload_n 0, 1, 0, 0, .null) := by decide +kernel
theorem zfL_305 : zg zcL 305 = some (.iload_n 3, 1, 0, 0, .null) := by decide +kernel
theorem zfL_306 : zg zcL 306 = some (.iconst 2, 1, 0, 0, .null) := by decide +kernel
theorem zfL_307 : zg zcL 307 = some (.iadd, 1, 0, 0, .null) := by decide +kernel
theorem zfL_308 : zg zcL 308 = some (.iaload, 1, 0, 0, .null) := by decide +kernel
theorem zfL_309 : zg zcL 309 = some (.invokevirtual 36, 3, 217, 0, .null) := by decide +kernel
theorem har217 : zar 217 = (2, 11) := by decide +kernel
theorem zfL_312 : zg zcL 312 = some (.if_icmp .eq 729, 3, 1041, 0, .null) := by decide +kernel
theorem zfL_317 : zg zcL 317 = some (.aload_n 1, 1, 0, 0, .null) := by decide +kernel
theorem zfL_318 : zg zcL 318 = some (.aload_n 0, 1, 0, 0, .null) := by decide +kernel
theorem zfL_319 : zg zcL 319 = some (.iload_n 3, 1, 0, 0, .null) := by decide +kernel
theorem zfL_320 : zg zcL 320 = some (.iconst 1, 1, 0, 0, .null) := by decide +kernel
theorem zfL_321 : zg zcL 321 = some (.iadd, 1, 0, 0, .null) := by decide +kernel
theorem zfL_322 : zg zcL 322 = some (.iaload, 1, 0, 0, .null) := by decide +kernel
theorem zfL_323 : zg zcL 323 = some (.aload_n 0, 1, 0, 0, .null) := by decide +kernel
theorem zfL_324 : zg zcL 324 = some (.iload_n 3, 1, 0, 0, .null) := by decide +kernel
theorem zfL_325 : zg zcL 325 = some (.iconst 2, 1, 0, 0, .null) := by decide +kernel
theorem zfL_326 : zg zcL 326 = some (.iadd, 1, 0, 0, .null) := by decide +kernel
theorem zfL_327 : zg zcL 327 = some (.iaload, 1, 0, 0, .null) := by decide +kernel
theorem zfL_328 : zg zcL 328 = some (.invokevirtual 37, 3, 129, 0, .null) := by decide +kernel
theorem har129 : zar 129 = (2, 10) := by decide +kernel
theorem zfL_331 : zg zcL 331 = some (.aload_n 2, 1, 0, 0, .null) := by decide +kernel
theorem zfL_332 : zg zcL 332 = some (.aload_n 0, 1, 0, 0, .null) := by decide +kernel
theorem zfL_333 : zg zcL 333 = some (.iload_n 3, 1, 0, 0, .null) := by decide +kernel
theorem zfL_334 : zg zcL 334 = some (.iconst 1, 1, 0, 0, .null) := by decide +kernel
theorem zfL_335 : zg zcL 335 = some (.iadd, 1, 0, 0, .null) := by decide +kernel
theorem zfL_336 : zg zcL 336 = some (.iaload, 1, 0, 0, .null) := by decide +kernel
theorem zfL_337 : zg zcL 337 = some (.aload_n 0, 1, 0, 0, .null) := by decide +kernel
theorem zfL_338 : zg zcL 338 = some (.iload_n 3, 1, 0, 0, .null) := by decide +kernel
theorem zfL_339 : zg zcL 339 = some (.iconst 2, 1, 0, 0, .null) := by decide +kernel
theorem zfL_340 : zg zcL 340 = some (.iadd, 1, 0, 0, .null) := by decide +kernel
theorem zfL_341 : zg zcL 341 = some (.iaload, 1, 0, 0, .null) := by decide +kernel
theorem zfL_342 : zg zcL 342 = some (.invokevirtual 40, 3, 218, 0, .null) := by decide +kernel
theorem har218 : zar 218 = (2, 11) := by decide +kernel
theorem zfL_345 : zg zcL 345 = some (.if_icmp .eq 696, 3, 1041, 0, .null) := by decide +kernel
theorem zfL_350 : zg zcL 350 = some (.aload_n 1, 1, 0, 0, .null) := by decide +kernel
theorem zfL_351 : zg zcL 351 = some (.aload_n 0, 1, 0, 0, .null) := by decide +kernel
theorem zfL_352 : zg zcL 352 = some (.iload_n 3, 1, 0, 0, .null) := by decide +kernel
theorem zfL_353 : zg zcL 353 = some (.iconst 1, 1, 0, 0, .null) := by decide +kernel
theorem zfL_354 : zg zcL 354 = some (.iadd, 1, 0, 0, .null) := by decide +kernel
theorem zfL_355 : zg zcL 355 = some (.iaload, 1, 0, 0, .null) := by decide +kernel
theorem zfL_356 : zg zcL 356 = some (.aload_n 0, 1, 0, 0, .null) := by decide +kernel
theorem zfL_357 : zg zcL 357 = some (.iload_n 3, 1, 0, 0, .null) := by decide +kernel
theorem zfL_358 : zg zcL 358 = some (.iconst 2, 1, 0, 0, .null) := by decide +kernel
theorem zfL_359 : zg zcL 359 = some (.iadd, 1, 0, 0, .null) := by decide +kernel
theorem zfL_360 : zg zcL 360 = some (.iaload, 1, 0, 0, .null) := by decide +kernel
theorem zfL_361 : zg zcL 361 = some (.aload_n 0, 1, 0, 0, .null) := by decide +kernel
theorem zfL_362 : zg zcL 362 = some (.iload_n 3, 1, 0, 0, .null) := by decide +kernel
theorem zfL_363 : zg zcL 363 = some (.iconst 3, 1, 0, 0, .null) := by decide +kernel
theorem zfL_364 : zg zcL 364 = some (.iadd, 1, 0, 0, .null) := by decide +kernel
theorem zfL_365 : zg zcL 365 = some (.iaload, 1, 0, 0, .null) := by decide +kernel
theorem zfL_366 : zg zcL 366 = some (.invokevirtual 41, 3, 130, 0, .null) := by decide +kernel
theorem har130 : zar 130 = (3, 10) := by decide +kernel
theorem zfL_369 : zg zcL 369 = some (.aload_n 2, 1, 0, 0, .null) := by decide +kernel
theorem zfL_370 : zg zcL 370 = some (.aload_n 0, 1, 0, 0, .null) := by decide +kernel
theorem zfL_371 : zg zcL 371 = some (.iload_n 3, 1, 0, 0, .null) := by decide +kernel
theorem zfL_372 : zg zcL 372 = some (.iconst 1, 1, 0, 0, .null) := by decide +kernel
theorem zfL_373 : zg zcL 373 = some (.iadd, 1, 0, 0, .null) := by decide +kernel
theorem zfL_374 : zg zcL 374 = some (.iaload, 1, 0, 0, .null) := by decide +kernel
theorem zfL_375 : zg zcL 375 = some (.aload_n 0, 1, 0, 0, .null) := by decide +kernel
theorem zfL_376 : zg zcL 376 = some (.iload_n 3, 1, 0, 0, .null) := by decide +kernel
theorem zfL_377 : zg zcL 377 = some (.iconst 2, 1, 0, 0, .null) := by decide +kernel
theorem zfL_378 : zg zcL 378 = some (.iadd, 1, 0, 0, .null) := by decide +kernel
theorem zfL_379 : zg zcL 379 = some (.iaload, 1, 0, 0, .null) := by decide +kernel
theorem zfL_380 : zg zcL 380 = some (.aload_n 0, 1, 0, 0, .null) := by decide +kernel
theorem zfL_381 : zg zcL 381 = some (.iload_n 3, 1, 0, 0, .null) := by decide +kernel
theorem zfL_382 : zg zcL 382 = some (.iconst 3, 1, 0, 0, .null) := by decide +kernel
theorem zfL_383 : zg zcL 383 = some (.iadd, 1, 0, 0, .null) := by decide +kernel
theorem zfL_384 : zg zcL 384 = some (.iaload, 1, 0, 0, .null) := by decide +kernel
theorem zfL_385 : zg zcL 385 = some (.invokevirtual 45, 3, 219, 0, .null) := by decide +kernel
theorem har219 : zar 219 = (3, 11) := by decide +kernel
theorem zfL_388 : zg zcL 388 = some (.if_icmp .eq 653, 3, 1041, 0, .null) := by decide +kernel
theorem zfL_393 : zg zcL 393 = some (.aload_n 1, 1, 0, 0, .null) := by decide +kernel
theorem zfL_394 : zg zcL 394 = some (.aload_n 0, 1, 0, 0, .null) := by decide +kernel
theorem zfL_395 : zg zcL 395 = some (.iload_n 3, 1, 0, 0, .null) := by decide +kernel
theorem zfL_396 : zg zcL 396 = some (.iconst 1, 1, 0, 0, .null) := by decide +kernel
theorem zfL_397 : zg zcL 397 = some (.iadd, 1, 0, 0, .null) := by decide +kernel
theorem zfL_398 : zg zcL 398 = some (.iaload, 1, 0, 0, .null) := by decide +kernel
theorem zfL_399 : zg zcL 399 = some (.aload_n 0, 1, 0, 0, .null) := by decide +kernel
theorem zfL_400 : zg zcL 400 = some (.iload_n 3, 1, 0, 0, .null) := by decide +kernel
theorem zfL_401 : zg zcL 401 = some (.iconst 2, 1, 0, 0, .null) := by decide +kernel
theorem zfL_402 : zg zcL 402 = some (.iadd, 1, 0, 0, .null) := by decide +kernel
theorem zfL_403 : zg zcL 403 = some (.iaload, 1, 0, 0, .null) := by decide +kernel
theorem zfL_404 : zg zcL 404 = some (.invokevirtual 46, 3, 131, 0, .null) := by decide +kernel
theorem har131 : zar 131 = (2, 10) := by decide +kernel
theorem zfL_407 : zg zcL 407 = some (.aload_n 2, 1, 0, 0, .null) := by decide +kernel
theorem zfL_408 : zg zcL 408 = some (.aload_n 0, 1, 0, 0, .null) := by decide +kernel
theorem zfL_409 : zg zcL 409 = some (.iload_n 3, 1, 0, 0, .null) := by decide +kernel
theorem zfL_410 : zg zcL 410 = some (.iconst 1, 1, 0, 0, .null) := by decide +kernel
theorem zfL_411 : zg zcL 411 = some (.iadd, 1, 0, 0, .null) := by decide +kernel
theorem zfL_412 : zg zcL 412 = some (.iaload, 1, 0, 0, .null) := by decide +kernel
theorem zfL_413 : zg zcL 413 = some (.aload_n 0, 1, 0, 0, .null) := by decide +kernel
theorem zfL_414 : zg zcL 414 = some (.iload_n 3, 1, 0, 0, .null) := by decide +kernel
theorem zfL_415 : zg zcL 415 = some (.iconst 2, 1, 0, 0, .null) := by decide +kernel
theorem zfL_416 : zg zcL 416 = some (.iadd, 1, 0, 0, .null) := by decide +kernel
theorem zfL_417 : zg zcL 417 = some (.iaload, 1, 0, 0, .null) := by decide +kernel
theorem zfL_418 : zg zcL 418 = some (.invokevirtual 49, 3, 226, 0, .null) := by decide +kernel
theorem har226 : zar 226 = (2, 11) := by decide +kernel
theorem zfL_421 : zg zcL 421 = some (.if_icmp .eq 620, 3, 1041, 0, .null) := by decide +kernel
theorem zfL_426 : zg zcL 426 = some (.aload_n 1, 1, 0, 0, .null) := by decide +kernel
theorem zfL_427 : zg zcL 427 = some (.aload_n 0, 1, 0, 0, .null) := by decide +kernel
theorem zfL_428 : zg zcL 428 = some (.iload_n 3, 1, 0, 0, .null) := by decide +kernel
theorem zfL_429 : zg zcL 429 = some (.iconst 1, 1, 0, 0, .null) := by decide +kernel
theorem zfL_430 : zg zcL 430 = some (.iadd, 1, 0, 0, .null) := by decide +kernel
theorem zfL_431 : zg zcL 431 = some (.iaload, 1, 0, 0, .null) := by decide +kernel
theorem zfL_432 : zg zcL 432 = some (.invokevirtual 50, 3, 132, 0, .null) := by decide +kernel
theorem har132 : zar 132 = (1, 10) := by decide +kernel
theorem zfL_435 : zg zcL 435 = some (.aload_n 2, 1, 0, 0, .null) := by decide +kernel
theorem zfL_436 : zg zcL 436 = some (.aload_n 0, 1, 0, 0, .null) := by decide +kernel
theorem zfL_437 : zg zcL 437 = some (.iload_n 3, 1, 0, 0, .null) := by decide +kernel
theorem zfL_438 : zg zcL 438 = some (.iconst 1, 1, 0, 0, .null) := by decide +kernel
theorem zfL_439 : zg zcL 439 = some (.iadd, 1, 0, 0, .null) := by decide +kernel
theorem zfL_440 : zg zcL 440 = some (.iaload, 1, 0, 0, .null) := by decide +kernel
theorem zfL_441 : zg zcL 441 = some (.invokevirtual 53, 3, 227, 0, .null) := by decide +kernel
theorem har227 : zar 227 = (1, 11) := by decide +kernel
theorem zfL_444 : zg zcL 444 = some (.if_icmp .eq 597, 3, 1041, 0, .null) := by decide +kernel
theorem zfL_449 : zg zcL 449 = some (.aload_n 1, 1, 0, 0, .null) := by decide +kernel
theorem zfL_450 : zg zcL 450 = some (.aload_n 0, 1, 0, 0, .null) := by decide +kernel
theorem zfL_451 : zg zcL 451 = some (.iload_n 3, 1, 0, 0, .null) := by decide +kernel
theorem zfL_452 : zg zcL 452 = some (.iconst 1, 1, 0, 0, .null) := by decide +kernel
theorem zfL_453 : zg zcL 453 = some (.iadd, 1, 0, 0, .null) := by decide +kernel
theorem zfL_454 : zg zcL 454 = some (.iaload, 1, 0, 0, .null) := by decide +kernel
theorem zfL_455 : zg zcL 455 = some (.invokevirtual 54, 3, 133, 0, .null) := by decide +kernel
theorem har133 : zar 133 = (1, 10) := by decide +kernel
theorem zfL_458 : zg zcL 458 = some (.aload_n 2, 1, 0, 0, .null) := by decide +kernel
theorem zfL_459 : zg zcL 459 = some (.aload_n 0, 1, 0, 0, .null) := by decide +kernel
theorem zfL_460 : zg zcL 460 = some (.iload_n 3, 1, 0, 0, .null) := by decide +kernel
theorem zfL_461 : zg zcL 461 = some (.iconst 1, 1, 0, 0, .null) := by decide +kernel
theorem zfL_462 : zg zcL 462 = some (.iadd, 1, 0, 0, .null) := by decide +kernel
theorem zfL_463 : zg zcL 463 = some (.iaload, 1, 0, 0, .null) := by decide +kernel
theorem zfL_464 : zg zcL 464 = some (.invokevirtual 57, 3, 228, 0, .null) := by decide +kernel
theorem har228 : zar 228 = (1, 11) := by decide +kernel
theorem zfL_467 : zg zcL 467 = some (.if_icmp .eq 574, 3, 1041, 0, .null) := by decide +kernel
theorem zfL_472 : zg zcL 472 = some (.aload_n 1, 1, 0, 0, .null) := by decide +kernel
theorem zfL_473 : zg zcL 473 = some (.aload_n 0, 1, 0, 0, .null) := by decide +kernel
theorem zfL_474 : zg zcL 474 = some (.iload_n 3, 1, 0, 0, .null) := by decide +kernel
theorem zfL_475 : zg zcL 475 = some (.iconst 1, 1, 0, 0, .null) := by decide +kernel
theorem zfL_476 : zg zcL 476 = some (.iadd, 1, 0, 0, .null) := by decide +kernel
theorem zfL_477 : zg zcL 477 = some (.iaload, 1, 0, 0, .null) := by decide +kernel
theorem zfL_478 : zg zcL 478 = some (.aload_n 0, 1, 0, 0, .null) := by decide +kernel
theorem zfL_479 : zg zcL 479 = some (.iload_n 3, 1, 0, 0, .null) := by decide +kernel
theorem zfL_480 : zg zcL 480 = some (.iconst 2, 1, 0, 0, .null) := by decide +kernel
theorem zfL_481 : zg zcL 481 = some (.iadd, 1, 0, 0, .null) := by decide +kernel
theorem zfL_482 : zg zcL 482 = some (.iaload, 1, 0, 0, .null) := by decide +kernel
theorem zfL_483 : zg zcL 483 = some (.invokevirtual 58, 3, 134, 0, .null) := by decide +kernel
theorem har134 : zar 134 = (2, 10) := by decide +kernel
theorem zfL_486 : zg zcL 486 = some (.aload_n 2, 1, 0, 0, .null) := by decide +kernel
theorem zfL_487 : zg zcL 487 = some (.aload_n 0, 1, 0, 0, .null) := by decide +kernel
theorem zfL_488 : zg zcL 488 = some (.iload_n 3, 1, 0, 0, .null) := by decide +kernel
theorem zfL_489 : zg zcL 489 = some (.iconst 1, 1, 0, 0, .null) := by decide +kernel
theorem zfL_490 : zg zcL 490 = some (.iadd, 1, 0, 0, .null) := by decide +kernel
theorem zfL_491 : zg zcL 491 = some (.iaload, 1, 0, 0, .null) := by decide +kernel
theorem zfL_492 : zg zcL 492 = some (.aload_n 0, 1, 0, 0, .null) := by decide +kernel
theorem zfL_493 : zg zcL 493 = some (.iload_n 3, 1, 0, 0, .null) := by decide +kernel
theorem zfL_494 : zg zcL 494 = some (.iconst 2, 1, 0, 0, .null) := by decide +kernel
theorem zfL_495 : zg zcL 495 = some (.iadd, 1, 0, 0, .null) := by decide +kernel
theorem zfL_496 : zg zcL 496 = some (.iaload, 1, 0, 0, .null) := by decide +kernel
theorem zfL_497 : zg zcL 497 = some (.invokevirtual 62, 3, 230, 0, .null) := by decide +kernel
theorem har230 : zar 230 = (2, 11) := by decide +kernel
theorem zfL_500 : zg zcL 500 = some (.if_icmp .eq 541, 3, 1041, 0, .null) := by decide +kernel
theorem zfL_505 : zg zcL 505 = some (.aload_n 1, 1, 0, 0, .null) := by decide +kernel
theorem zfL_506 : zg zcL 506 = some (.invokevirtual 63, 3, 135, 0, .null) := by decide +kernel
theorem har135 : zar 135 = (0, 10) := by decide +kernel
theorem zfL_509 : zg zcL 509 = some (.aload_n 2, 1, 0, 0, .null) := by decide +kernel
theorem zfL_510 : zg zcL 510 = some (.invokevirtual 66, 3, 242, 0, .null) := by decide +kernel
theorem har242 : zar 242 = (0, 11) := by decide +kernel
theorem zfL_513 : zg zcL 513 = some (.if_icmp .eq 528, 3, 1041, 0, .null) := by decide +kernel
theorem zfL_518 : zg zcL 518 = some (.aload_n 1, 1, 0, 0, .null) := by decide +kernel
theorem zfL_519 : zg zcL 519 = some (.aload_n 0, 1, 0, 0, .null) := by decide +kernel
theorem zfL_520 : zg zcL 520 = some (.iload_n 3, 1, 0, 0, .null) := by decide +kernel
theorem zfL_521 : zg zcL 521 = some (.iconst 1, 1, 0, 0, .null) := by decide +kernel
theorem zfL_522 : zg zcL 522 = some (.iadd, 1, 0, 0, .null) := by decide +kernel
theorem zfL_523 : zg zcL 523 = some (.iaload, 1, 0, 0, .null) := by decide +kernel
theorem zfL_524 : zg zcL 524 = some (.aload_n 0, 1, 0, 0, .null) := by decide +kernel
theorem zfL_525 : zg zcL 525 = some (.iload_n 3, 1, 0, 0, .null) := by decide +kernel
theorem zfL_526 : zg zcL 526 = some (.iconst 2, 1, 0, 0, .null) := by decide +kernel
theorem zfL_527 : zg zcL 527 = some (.iadd, 1, 0, 0, .null) := by decide +kernel
theorem zfL_528 : zg zcL 528 = some (.iaload, 1, 0, 0, .null) := by decide +kernel
theorem zfL_529 : zg zcL 529 = some (.invokevirtual 67, 3, 136, 0, .null) := by decide +kernel
theorem har136 : zar 136 = (2, 10) := by decide +kernel
theorem zfL_532 : zg zcL 532 = some (.aload_n 2, 1, 0, 0, .null) := by decide +kernel
theorem zfL_533 : zg zcL 533 = some (.aload_n 0, 1, 0, 0, .null) := by decide +kernel
theorem zfL_534 : zg zcL 534 = some (.iload_n 3, 1, 0, 0, .null) := by decide +kernel
theorem zfL_535 : zg zcL 535 = some (.iconst 1, 1, 0, 0, .null) := by decide +kernel
theorem zfL_536 : zg zcL 536 = some (.iadd, 1, 0, 0, .null) := by decide +kernel
theorem zfL_537 : zg zcL 537 = some (.iaload, 1, 0, 0, .null) := by decide +kernel
theorem zfL_538 : zg zcL 538 = some (.aload_n 0, 1, 0, 0, .null) := by decide +kernel
theorem zfL_539 : zg zcL 539 = some (.iload_n 3, 1, 0, 0, .null) := by decide +kernel
theorem zfL_540 : zg zcL 540 = some (.iconst 2, 1, 0, 0, .null) := by decide +kernel
theorem zfL_541 : zg zcL 541 = some (.iadd, 1, 0, 0, .null) := by decide +kernel
theorem zfL_542 : zg zcL 542 = some (.iaload, 1, 0, 0, .null) := by decide +kernel
theorem zfL_543 : zg zcL 543 = some (.invokevirtual 70, 3, 232, 0, .null) := by decide +kernel
theorem har232 : zar 232 = (2, 11) := by decide +kernel
theorem zfL_546 : zg zcL 546 = some (.if_icmp .eq 495, 3, 1041, 0, .null) := by decide +kernel
theorem zfL_551 : zg zcL 551 = some (.aload_n 1, 1, 0, 0, .null) := by decide +kernel
theorem zfL_552 : zg zcL 552 = some (.invokevirtual 71, 3, 137, 0, .null) := by decide +kernel
theorem har137 : zar 137 = (0, 10) := by decide +kernel
theorem zfL_555 : zg zcL 555 = some (.aload_n 2, 1, 0, 0, .null) := by decide +kernel
theorem zfL_556 : zg zcL 556 = some (.invokevirtual 74, 3, 234, 0, .null) := by decide +kernel
theorem har234 : zar 234 = (0, 11) := by decide +kernel
theorem zfL_559 : zg zcL 559 = some (.if_icmp .eq 482, 3, 1041, 0, .null) := by decide +kernel
theorem zfL_564 : zg zcL 564 = some (.aload_n 1, 1, 0, 0, .null) := by decide +kernel
theorem zfL_565 : zg zcL 565 = some (.invokevirtual 75, 3, 138, 0, .null) := by decide +kernel
theorem har138 : zar 138 = (0, 10) := by decide +kernel
theorem zfL_568 : zg zcL 568 = some (.aload_n 2, 1, 0, 0, .null) := by decide +kernel
theorem zfL_569 : zg zcL 569 = some (.invokevirtual 78, 3, 221, 0, .null) := by decide +kernel
theorem har221 : zar 221 = (0, 11) := by decide +kernel
theorem zfL_572 : zg zcL 572 = some (.if_icmp .eq 469, 3, 1041, 0, .null) := by decide +kernel
theorem zfL_577 : zg zcL 577 = some (.aload_n 1, 1, 0, 0, .null) := by decide +kernel
theorem zfL_578 : zg zcL 578 = some (.aload_n 0, 1, 0, 0, .null) := by decide +kernel
theorem zfL_579 : zg zcL 579 = some (.iload_n 3, 1, 0, 0, .null) := by decide +kernel
theorem zfL_580 : zg zcL 580 = some (.iconst 1, 1, 0, 0, .null) := by decide +kernel
theorem zfL_581 : zg zcL 581 = some (.iadd, 1, 0, 0, .null) := by decide +kernel
theorem zfL_582 : zg zcL 582 = some (.iaload, 1, 0, 0, .null) := by decide +kernel
theorem zfL_583 : zg zcL 583 = some (.aload_n 0, 1, 0, 0, .null) := by decide +kernel
theorem zfL_584 : zg zcL 584 = some (.iload_n 3, 1, 0, 0, .null) := by decide +kernel
theorem zfL_585 : zg zcL 585 = some (.iconst 2, 1, 0, 0, .null) := by decide +kernel
theorem zfL_586 : zg zcL 586 = some (.iadd, 1, 0, 0, .null) := by decide +kernel
theorem zfL_587 : zg zcL 587 = some (.iaload, 1, 0, 0, .null) := by decide +kernel
theorem zfL_588 : zg zcL 588 = some (.invokevirtual 79, 3, 139, 0, .null) := by decide +kernel
theorem har139 : zar 139 = (2, 10) := by decide +kernel
theorem zfL_591 : zg zcL 591 = some (.aload_n 2, 1, 0, 0, .null) := by decide +kernel
theorem zfL_592 : zg zcL 592 = some (.aload_n 0, 1, 0, 0, .null) := by decide +kernel
theorem zfL_593 : zg zcL 593 = some (.iload_n 3, 1, 0, 0, .null) := by decide +kernel
theorem zfL_594 : zg zcL 594 = some (.iconst 1, 1, 0, 0, .null) := by decide +kernel
theorem zfL_595 : zg zcL 595 = some (.iadd, 1, 0, 0, .null) := by decide +kernel
theorem zfL_596 : zg zcL 596 = some (.iaload, 1, 0, 0, .null) := by decide +kernel
theorem zfL_597 : zg zcL 597 = some (.aload_n 0, 1, 0, 0, .null) := by decide +kernel
theorem zfL_598 : zg zcL 598 = some (.iload_n 3, 1, 0, 0, .null) := by decide +kernel
theorem zfL_599 : zg zcL 599 = some (.iconst 2, 1, 0, 0, .null) := by decide +kernel
theorem zfL_600 : zg zcL 600 = some (.iadd, 1, 0, 0, .null) := by decide +kernel
theorem zfL_601 : zg zcL 601 = some (.iaload, 1, 0, 0, .null) := by decide +kernel
theorem zfL_602 : zg zcL 602 = some (.invokevirtual 82, 3, 248, 0, .null) := by decide +kernel
theorem har248 : zar 248 = (2, 11) := by decide +kernel
theorem zfL_605 : zg zcL 605 = some (.if_icmp .eq 436, 3, 1041, 0, .null) := by decide +kernel
theorem zfL_610 : zg zcL 610 = some (.aload_n 1, 1, 0, 0, .null) := by decide +kernel
theorem zfL_611 : zg zcL 611 = some (.aload_n 0, 1, 0, 0, .null) := by decide +kernel
theorem zfL_612 : zg zcL 612 = some (.iload_n 3, 1, 0, 0, .null) := by decide +kernel
theorem zfL_613 : zg zcL 613 = some (.iconst 1, 1, 0, 0, .null) := by decide +kernel
theorem zfL_614 : zg zcL 614 = some (.iadd, 1, 0, 0, .null) := by decide +kernel
theorem zfL_615 : zg zcL 615 = some (.iaload, 1, 0, 0, .null) := by decide +kernel
theorem zfL_616 : zg zcL 616 = some (.aload_n 0, 1, 0, 0, .null) := by decide +kernel
theorem zfL_617 : zg zcL 617 = some (.iload_n 3, 1, 0, 0, .null) := by decide +kernel
theorem zfL_618 : zg zcL 618 = some (.iconst 2, 1, 0, 0, .null) := by decide +kernel
theorem zfL_619 : zg zcL 619 = some (.iadd, 1, 0, 0, .null) := by decide +kernel
theorem zfL_620 : zg zcL 620 = some (.iaload, 1, 0, 0, .null) := by decide +kernel
theorem zfL_621 : zg zcL 621 = some (.aload_n 0, 1, 0, 0, .null) := by decide +kernel
theorem zfL_622 : zg zcL 622 = some (.iload_n 3, 1, 0, 0, .null) := by decide +kernel
theorem zfL_623 : zg zcL 623 = some (.iconst 3, 1, 0, 0, .null) := by decide +kernel
theorem zfL_624 : zg zcL 624 = some (.iadd, 1, 0, 0, .null) := by decide +kernel
theorem zfL_625 : zg zcL 625 = some (.iaload, 1, 0, 0, .null) := by decide +kernel
theorem zfL_626 : zg zcL 626 = some (.ifCond .eq 7, 3, 633, 0, .null) := by decide +kernel
theorem zfL_633 : zg zcL 633 = some (.iconst 0, 1, 0, 0, .null) := by decide +kernel
theorem zfL_634 : zg zcL 634 = some (.aload_n 0, 1, 0, 0, .null) := by decide +kernel
theorem zfL_635 : zg zcL 635 = some (.iload_n 3, 1, 0, 0, .null) := by decide +kernel
theorem zfL_636 : zg zcL 636 = some (.iconst 4, 1, 0, 0, .null) := by decide +kernel
theorem zfL_637 : zg zcL 637 = some (.iadd, 1, 0, 0, .null) := by decide +kernel
theorem zfL_638 : zg zcL 638 = some (.iaload, 1, 0, 0, .null) := by decide +kernel
theorem zfL_639 : zg zcL 639 = some (.invokevirtual 83, 3, 141, 0, .null) := by decide +kernel
theorem har141 : zar 141 = (4, 10) := by decide +kernel
theorem zfL_642 : zg zcL 642 = some (.aload_n 2, 1, 0, 0, .null) := by decide +kernel
theorem zfL_643 : zg zcL 643 = some (.aload_n 0, 1, 0, 0, .null) := by decide +kernel
theorem zfL_644 : zg zcL 644 = some (.iload_n 3, 1, 0, 0, .null) := by decide +kernel
theorem zfL_645 : zg zcL 645 = some (.iconst 1, 1, 0, 0, .null) := by decide +kernel
theorem zfL_646 : zg zcL 646 = some (.iadd, 1, 0, 0, .null) := by decide +kernel
theorem zfL_647 : zg zcL 647 = some (.iaload, 1, 0, 0, .null) := by decide +kernel
theorem zfL_648 : zg zcL 648 = some (.aload_n 0, 1, 0, 0, .null) := by decide +kernel
theorem zfL_649 : zg zcL 649 = some (.iload_n 3, 1, 0, 0, .null) := by decide +kernel
theorem zfL_650 : zg zcL 650 = some (.iconst 2, 1, 0, 0, .null) := by decide +kernel
theorem zfL_651 : zg zcL 651 = some (.iadd, 1, 0, 0, .null) := by decide +kernel
theorem zfL_652 : zg zcL 652 = some (.iaload, 1, 0, 0, .null) := by decide +kernel
theorem zfL_653 : zg zcL 653 = some (.aload_n 0, 1, 0, 0, .null) := by decide +kernel
theorem zfL_654 : zg zcL 654 = some (.iload_n 3, 1, 0, 0, .null) := by decide +kernel
theorem zfL_655 : zg zcL 655 = some (.iconst 3, 1, 0, 0, .null) := by decide +kernel
theorem zfL_656 : zg zcL 656 = some (.iadd, 1, 0, 0, .null) := by decide +kernel
theorem zfL_657 : zg zcL 657 = some (.iaload, 1, 0, 0, .null) := by decide +kernel
theorem zfL_658 : zg zcL 658 = some (.ifCond .eq 7, 3, 665, 0, .null) := by decide +kernel
theorem zfL_665 : zg zcL 665 = some (.iconst 0, 1, 0, 0, .null) := by decide +kernel
theorem zfL_666 : zg zcL 666 = some (.aload_n 0, 1, 0, 0, .null) := by decide +kernel
theorem zfL_667 : zg zcL 667 = some (.iload_n 3, 1, 0, 0, .null) := by decide +kernel
theorem zfL_668 : zg zcL 668 = some (.iconst 4, 1, 0, 0, .null) := by decide +kernel
theorem zfL_669 : zg zcL 669 = some (.iadd, 1, 0, 0, .null) := by decide +kernel
theorem zfL_670 : zg zcL 670 = some (.iaload, 1, 0, 0, .null) := by decide +kernel
theorem zfL_671 : zg zcL 671 = some (.invokevirtual 87, 3, 252, 0, .null) := by decide +kernel
theorem har252 : zar 252 = (4, 11) := by decide +kernel
theorem zfL_674 : zg zcL 674 = some (.if_icmp .eq 367, 3, 1041, 0, .null) := by decide +kernel
theorem zfL_629 : zg zcL 629 = some (.iconst 1, 1, 0, 0, .null) := by decide +kernel
theorem zfL_630 : zg zcL 630 = some (.goto 4, 3, 634, 0, .null) := by decide +kernel
theorem zfL_661 : zg zcL 661 = some (.iconst 1, 1, 0, 0, .null) := by decide +kernel
theorem zfL_662 : zg zcL 662 = some (.goto 4, 3, 666, 0, .null) := by decide +kernel
theorem zfL_679 : zg zcL 679 = some (.aload_n 1, 1, 0, 0, .null) := by decide +kernel
theorem zfL_680 : zg zcL 680 = some (.aload_n 0, 1, 0, 0, .null) := by decide +kernel
theorem zfL_681 : zg zcL 681 = some (.iload_n 3, 1, 0, 0, .null) := by decide +kernel
theorem zfL_682 : zg zcL 682 = some (.iconst 1, 1, 0, 0, .null) := by decide +kernel
theorem zfL_683 : zg zcL 683 = some (.iadd, 1, 0, 0, .null) := by decide +kernel
theorem zfL_684 : zg zcL 684 = some (.iaload, 1, 0, 0, .null) := by decide +kernel
theorem zfL_685 : zg zcL 685 = some (.invokevirtual 88, 3, 142, 0, .null) := by decide +kernel
theorem har142 : zar 142 = (1, 10) := by decide +kernel
theorem zfL_688 : zg zcL 688 = some (.aload_n 2, 1, 0, 0, .null) := by decide +kernel
theorem zfL_689 : zg zcL 689 = some (.aload_n 0, 1, 0, 0, .null) := by decide +kernel
theorem zfL_690 : zg zcL 690 = some (.iload_n 3, 1, 0, 0, .null) := by decide +kernel
theorem zfL_691 : zg zcL 691 = some (.iconst 1, 1, 0, 0, .null) := by decide +kernel
theorem zfL_692 : zg zcL 692 = some (.iadd, 1, 0, 0, .null) := by decide +kernel
theorem zfL_693 : zg zcL 693 = some (.iaload, 1, 0, 0, .null) := by decide +kernel
theorem zfL_694 : zg zcL 694 = some (.invokevirtual 91, 3, 257, 0, .null) := by decide +kernel
theorem har257 : zar 257 = (1, 11) := by decide +kernel
theorem zfL_697 : zg zcL 697 = some (.if_icmp .eq 344, 3, 1041, 0, .null) := by decide +kernel
theorem zfL_702 : zg zcL 702 = some (.aload_n 1, 1, 0, 0, .null) := by decide +kernel
theorem zfL_703 : zg zcL 703 = some (.aload_n 0, 1, 0, 0, .null) := by decide +kernel
theorem zfL_704 : zg zcL 704 = some (.iload_n 3, 1, 0, 0, .null) := by decide +kernel
theorem zfL_705 : zg zcL 705 = some (.iconst 1, 1, 0, 0, .null) := by decide +kernel
theorem zfL_706 : zg zcL 706 = some (.iadd, 1, 0, 0, .null) := by decide +kernel
theorem zfL_707 : zg zcL 707 = some (.iaload, 1, 0, 0, .null) := by decide +kernel
theorem zfL_708 : zg zcL 708 = some (.invokevirtual 92, 3, 143, 0, .null) := by decide +kernel
theorem har143 : zar 143 = (1, 10) := by decide +kernel
theorem zfL_711 : zg zcL 711 = some (.aload_n 2, 1, 0, 0, .null) := by decide +kernel
theorem zfL_712 : zg zcL 712 = some (.aload_n 0, 1, 0, 0, .null) := by decide +kernel
theorem zfL_713 : zg zcL 713 = some (.iload_n 3, 1, 0, 0, .null) := by decide +kernel
theorem zfL_714 : zg zcL 714 = some (.iconst 1, 1, 0, 0, .null) := by decide +kernel
theorem zfL_715 : zg zcL 715 = some (.iadd, 1, 0, 0, .null) := by decide +kernel
theorem zfL_716 : zg zcL 716 = some (.iaload, 1, 0, 0, .null) := by decide +kernel
theorem zfL_717 : zg zcL 717 = some (.invokevirtual 95, 3, 258, 0, .null) := by decide +kernel
theorem har258 : zar 258 = (1, 11) := by decide +kernel
theorem zfL_720 : zg zcL 720 = some (.if_icmp .eq 321, 3, 1041, 0, .null) := by decide +kernel
theorem zfL_725 : zg zcL 725 = some (.aload_n 1, 1, 0, 0, .null) := by decide +kernel
theorem zfL_726 : zg zcL 726 = some (.aload_n 0, 1, 0, 0, .null) := by decide +kernel
theorem zfL_727 : zg zcL 727 = some (.iload_n 3, 1, 0, 0, .null) := by decide +kernel
theorem zfL_728 : zg zcL 728 = some (.iconst 1, 1, 0, 0, .null) := by decide +kernel
theorem zfL_729 : zg zcL 729 = some (.iadd, 1, 0, 0, .null) := by decide +kernel
theorem zfL_730 : zg zcL 730 = some (.iaload, 1, 0, 0, .null) := by decide +kernel
theorem zfL_731 : zg zcL 731 = some (.aload_n 0, 1, 0, 0, .null) := by decide +kernel
theorem zfL_732 : zg zcL 732 = some (.iload_n 3, 1, 0, 0, .null) := by decide +kernel
theorem zfL_733 : zg zcL 733 = some (.iconst 2, 1, 0, 0, .null) := by decide +kernel
theorem zfL_734 : zg zcL 734 = some (.iadd, 1, 0, 0, .null) := by decide +kernel
theorem zfL_735 : zg zcL 735 = some (.iaload, 1, 0, 0, .null) := by decide +kernel
theorem zfL_736 : zg zcL 736 = some (.invokevirtual 96, 3, 144, 0, .null) := by decide +kernel
theorem har144 : zar 144 = (2, 10) := by decide +kernel
theorem zfL_739 : zg zcL 739 = some (.aload_n 2, 1, 0, 0, .null) := by decide +kernel
theorem zfL_740 : zg zcL 740 = some (.aload_n 0, 1, 0, 0, .null) := by decide +kernel
theorem zfL_741 : zg zcL 741 = some (.iload_n 3, 1, 0, 0, .null) := by decide +kernel
theorem zfL_742 : zg zcL 742 = some (.iconst 1, 1, 0, 0, .null) := by decide +kernel
theorem zfL_743 : zg zcL 743 = some (.iadd, 1, 0, 0, .null) := by decide +kernel
theorem zfL_744 : zg zcL 744 = some (.iaload, 1, 0, 0, .null) := by decide +kernel
theorem zfL_745 : zg zcL 745 = some (.aload_n 0, 1, 0, 0, .null) := by decide +kernel
theorem zfL_746 : zg zcL 746 = some (.iload_n 3, 1, 0, 0, .null) := by decide +kernel
theorem zfL_747 : zg zcL 747 = some (.iconst 2, 1, 0, 0, .null) := by decide +kernel
theorem zfL_748 : zg zcL 748 = some (.iadd, 1, 0, 0, .null) := by decide +kernel
theorem zfL_749 : zg zcL 749 = some (.iaload, 1, 0, 0, .null) := by decide +kernel
theorem zfL_750 : zg zcL 750 = some (.invokevirtual 99, 3, 261, 0, .null) := by decide +kernel
theorem har261 : zar 261 = (2, 11) := by decide +kernel
theorem zfL_753 : zg zcL 753 = some (.if_icmp .eq 288, 3, 1041, 0, .null) := by decide +kernel
theorem zfL_758 : zg zcL 758 = some (.aload_n 1, 1, 0, 0, .null) := by decide +kernel
theorem zfL_759 : zg zcL 759 = some (.aload_n 0, 1, 0, 0, .null) := by decide +kernel
theorem zfL_760 : zg zcL 760 = some (.iload_n 3, 1, 0, 0, .null) := by decide +kernel
theorem zfL_761 : zg zcL 761 = some (.iconst 1, 1, 0, 0, .null) := by decide +kernel
theorem zfL_762 : zg zcL 762 = some (.iadd, 1, 0, 0, .null) := by decide +kernel
theorem zfL_763 : zg zcL 763 = some (.iaload, 1, 0, 0, .null) := by decide +kernel
theorem zfL_764 : zg zcL 764 = some (.invokevirtual 100, 3, 145, 0, .null) := by decide +kernel
theorem har145 : zar 145 = (1, 10) := by decide +kernel
theorem zfL_767 : zg zcL 767 = some (.aload_n 2, 1, 0, 0, .null) := by decide +kernel
theorem zfL_768 : zg zcL 768 = some (.aload_n 0, 1, 0, 0, .null) := by decide +kernel
theorem zfL_769 : zg zcL 769 = some (.iload_n 3, 1, 0, 0, .null) := by decide +kernel
theorem zfL_770 : zg zcL 770 = some (.iconst 1, 1, 0, 0, .null) := by decide +kernel
theorem zfL_771 : zg zcL 771 = some (.iadd, 1, 0, 0, .null) := by decide +kernel
theorem zfL_772 : zg zcL 772 = some (.iaload, 1, 0, 0, .null) := by decide +kernel
theorem zfL_773 : zg zcL 773 = some (.invokevirtual 103, 3, 262, 0, .null) := by decide +kernel
theorem har262 : zar 262 = (1, 11) := by decide +kernel
theorem zfL_776 : zg zcL 776 = some (.if_icmp .eq 265, 3, 1041, 0, .null) := by decide +kernel
theorem zfL_781 : zg zcL 781 = some (.aload_n 1, 1, 0, 0, .null) := by decide +kernel
theorem zfL_782 : zg zcL 782 = some (.aload_n 0, 1, 0, 0, .null) := by decide +kernel
theorem zfL_783 : zg zcL 783 = some (.iload_n 3, 1, 0, 0, .null) := by decide +kernel
theorem zfL_784 : zg zcL 784 = some (.iconst 1, 1, 0, 0, .null) := by decide +kernel
theorem zfL_785 : zg zcL 785 = some (.iadd, 1, 0, 0, .null) := by decide +kernel
theorem zfL_786 : zg zcL 786 = some (.iaload, 1, 0, 0, .null) := by decide +kernel
theorem zfL_787 : zg zcL 787 = some (.invokevirtual 104, 3, 146, 0, .null) := by decide +kernel
theorem har146 : zar 146 = (1, 10) := by decide +kernel
theorem zfL_790 : zg zcL 790 = some (.aload_n 2, 1, 0, 0, .null) := by decide +kernel
theorem zfL_791 : zg zcL 791 = some (.aload_n 0, 1, 0, 0, .null) := by decide +kernel
theorem zfL_792 : zg zcL 792 = some (.iload_n 3, 1, 0, 0, .null) := by decide +kernel
theorem zfL_793 : zg zcL 793 = some (.iconst 1, 1, 0, 0, .null) := by decide +kernel
theorem zfL_794 : zg zcL 794 = some (.iadd, 1, 0, 0, .null) := by decide +kernel
theorem zfL_795 : zg zcL 795 = some (.iaload, 1, 0, 0, .null) := by decide +kernel
theorem zfL_796 : zg zcL 796 = some (.invokevirtual 107, 3, 264, 0, .null) := by decide +kernel
theorem har264 : zar 264 = (1, 11) := by decide +kernel
theorem zfL_799 : zg zcL 799 = some (.if_icmp .eq 242, 3, 1041, 0, .null) := by decide +kernel
theorem zfL_804 : zg zcL 804 = some (.aload_n 1, 1, 0, 0, .null) := by decide +kernel
theorem zfL_805 : zg zcL 805 = some (.aload_n 0, 1, 0, 0, .null) := by decide +kernel
theorem zfL_806 : zg zcL 806 = some (.iload_n 3, 1, 0, 0, .null) := by decide +kernel
theorem zfL_807 : zg zcL 807 = some (.iconst 1, 1, 0, 0, .null) := by decide +kernel
theorem zfL_808 : zg zcL 808 = some (.iadd, 1, 0, 0, .null) := by decide +kernel
theorem zfL_809 : zg zcL 809 = some (.iaload, 1, 0, 0, .null) := by decide +kernel
theorem zfL_810 : zg zcL 810 = some (.invokevirtual 108, 3, 147, 0, .null) := by decide +kernel
theorem har147 : zar 147 = (1, 10) := by decide +kernel
theorem zfL_813 : zg zcL 813 = some (.aload_n 2, 1, 0, 0, .null) := by decide +kernel
theorem zfL_814 : zg zcL 814 = some (.aload_n 0, 1, 0, 0, .null) := by decide +kernel
theorem zfL_815 : zg zcL 815 = some (.iload_n 3, 1, 0, 0, .null) := by decide +kernel
theorem zfL_816 : zg zcL 816 = some (.iconst 1, 1, 0, 0, .null) := by decide +kernel
theorem zfL_817 : zg zcL 817 = some (.iadd, 1, 0, 0, .null) := by decide +kernel
theorem zfL_818 : zg zcL 818 = some (.iaload, 1, 0, 0, .null) := by decide +kernel
theorem zfL_819 : zg zcL 819 = some (.invokevirtual 111, 3, 265, 0, .null) := by decide +kernel
theorem har265 : zar 265 = (1, 11) := by decide +kernel
theorem zfL_822 : zg zcL 822 = some (.if_icmp .eq 219, 3, 1041, 0, .null) := by decide +kernel
theorem zfL_827 : zg zcL 827 = some (.aload_n 1, 1, 0, 0, .null) := by decide +kernel
theorem zfL_828 : zg zcL 828 = some (.aload_n 0, 1, 0, 0, .null) := by decide +kernel
theorem zfL_829 : zg zcL 829 = some (.iload_n 3, 1, 0, 0, .null) := by decide +kernel
theorem zfL_830 : zg zcL 830 = some (.iconst 1, 1, 0, 0, .null) := by decide +kernel
theorem zfL_831 : zg zcL 831 = some (.iadd, 1, 0, 0, .null) := by decide +kernel
theorem zfL_832 : zg zcL 832 = some (.iaload, 1, 0, 0, .null) := by decide +kernel
theorem zfL_833 : zg zcL 833 = some (.aload_n 0, 1, 0, 0, .null) := by decide +kernel
theorem zfL_834 : zg zcL 834 = some (.iload_n 3, 1, 0, 0, .null) := by decide +kernel
theorem zfL_835 : zg zcL 835 = some (.iconst 2, 1, 0, 0, .null) := by decide +kernel
theorem zfL_836 : zg zcL 836 = some (.iadd, 1, 0, 0, .null) := by decide +kernel
theorem zfL_837 : zg zcL 837 = some (.iaload, 1, 0, 0, .null) := by decide +kernel
theorem zfL_838 : zg zcL 838 = some (.invokevirtual 112, 3, 148, 0, .null) := by decide +kernel
theorem har148 : zar 148 = (2, 10) := by decide +kernel
theorem zfL_841 : zg zcL 841 = some (.aload_n 2, 1, 0, 0, .null) := by decide +kernel
theorem zfL_842 : zg zcL 842 = some (.aload_n 0, 1, 0, 0, .null) := by decide +kernel
theorem zfL_843 : zg zcL 843 = some (.iload_n 3, 1, 0, 0, .null) := by decide +kernel
theorem zfL_844 : zg zcL 844 = some (.iconst 1, 1, 0, 0, .null) := by decide +kernel
theorem zfL_845 : zg zcL 845 = some (.iadd, 1, 0, 0, .null) := by decide +kernel
theorem zfL_846 : zg zcL 846 = some (.iaload, 1, 0, 0, .null) := by decide +kernel
theorem zfL_847 : zg zcL 847 = some (.aload_n 0, 1, 0, 0, .null) := by decide +kernel
theorem zfL_848 : zg zcL 848 = some (.iload_n 3, 1, 0, 0, .null) := by decide +kernel
theorem zfL_849 : zg zcL 849 = some (.iconst 2, 1, 0, 0, .null) := by decide +kernel
theorem zfL_850 : zg zcL 850 = some (.iadd, 1, 0, 0, .null) := by decide +kernel
theorem zfL_851 : zg zcL 851 = some (.iaload, 1, 0, 0, .null) := by decide +kernel
theorem zfL_852 : zg zcL 852 = some (.invokevirtual 115, 3, 267, 0, .null) := by decide +kernel
theorem har267 : zar 267 = (2, 11) := by decide +kernel
theorem zfL_855 : zg zcL 855 = some (.if_icmp .eq 186, 3, 1041, 0, .null) := by decide +kernel
theorem zfL_860 : zg zcL 860 = some (.aload_n 1, 1, 0, 0, .null) := by decide +kernel
theorem zfL_861 : zg zcL 861 = some (.aload_n 0, 1, 0, 0, .null) := by decide +kernel
theorem zfL_862 : zg zcL 862 = some (.iload_n 3, 1, 0, 0, .null) := by decide +kernel
theorem zfL_863 : zg zcL 863 = some (.iconst 1, 1, 0, 0, .null) := by decide +kernel
theorem zfL_864 : zg zcL 864 = some (.iadd, 1, 0, 0, .null) := by decide +kernel
theorem zfL_865 : zg zcL 865 = some (.iaload, 1, 0, 0, .null) := by decide +kernel
theorem zfL_866 : zg zcL 866 = some (.invokevirtual 116, 3, 149, 0, .null) := by decide +kernel
theorem har149 : zar 149 = (1, 10) := by decide +kernel
theorem zfL_869 : zg zcL 869 = some (.aload_n 2, 1, 0, 0, .null) := by decide +kernel
theorem zfL_870 : zg zcL 870 = some (.aload_n 0, 1, 0, 0, .null) := by decide +kernel
theorem zfL_871 : zg zcL 871 = some (.iload_n 3, 1, 0, 0, .null) := by decide +kernel
theorem zfL_872 : zg zcL 872 = some (.iconst 1, 1, 0, 0, .null) := by decide +kernel
theorem zfL_873 : zg zcL 873 = some (.iadd, 1, 0, 0, .null) := by decide +kernel
theorem zfL_874 : zg zcL 874 = some (.iaload, 1, 0, 0, .null) := by decide +kernel
theorem zfL_875 : zg zcL 875 = some (.invokevirtual 119, 3, 269, 0, .null) := by decide +kernel
theorem har269 : zar 269 = (1, 11) := by decide +kernel
theorem zfL_878 : zg zcL 878 = some (.if_icmp .eq 163, 3, 1041, 0, .null) := by decide +kernel
theorem zfL_883 : zg zcL 883 = some (.aload_n 1, 1, 0, 0, .null) := by decide +kernel
theorem zfL_884 : zg zcL 884 = some (.aload_n 0, 1, 0, 0, .null) := by decide +kernel
theorem zfL_885 : zg zcL 885 = some (.iload_n 3, 1, 0, 0, .null) := by decide +kernel
theorem zfL_886 : zg zcL 886 = some (.iconst 1, 1, 0, 0, .null) := by decide +kernel
theorem zfL_887 : zg zcL 887 = some (.iadd, 1, 0, 0, .null) := by decide +kernel
theorem zfL_888 : zg zcL 888 = some (.iaload, 1, 0, 0, .null) := by decide +kernel
theorem zfL_889 : zg zcL 889 = some (.invokevirtual 120, 3, 150, 0, .null) := by decide +kernel
theorem har150 : zar 150 = (1, 10) := by decide +kernel
theorem zfL_892 : zg zcL 892 = some (.aload_n 2, 1, 0, 0, .null) := by decide +kernel
theorem zfL_893 : zg zcL 893 = some (.aload_n 0, 1, 0, 0, .null) := by decide +kernel
theorem zfL_894 : zg zcL 894 = some (.iload_n 3, 1, 0, 0, .null) := by decide +kernel
theorem zfL_895 : zg zcL 895 = some (.iconst 1, 1, 0, 0, .null) := by decide +kernel
theorem zfL_896 : zg zcL 896 = some (.iadd, 1, 0, 0, .null) := by decide +kernel
theorem zfL_897 : zg zcL 897 = some (.iaload, 1, 0, 0, .null) := by decide +kernel
theorem zfL_898 : zg zcL 898 = some (.invokevirtual 123, 3, 272, 0, .null) := by decide +kernel
theorem har272 : zar 272 = (1, 11) := by decide +kernel
theorem zfL_901 : zg zcL 901 = some (.if_icmp .eq 140, 3, 1041, 0, .null) := by decide +kernel
theorem zfL_906 : zg zcL 906 = some (.aload_n 1, 1, 0, 0, .null) := by decide +kernel
theorem zfL_907 : zg zcL 907 = some (.aload_n 0, 1, 0, 0, .null) := by decide +kernel
theorem zfL_908 : zg zcL 908 = some (.iload_n 3, 1, 0, 0, .null) := by decide +kernel
theorem zfL_909 : zg zcL 909 = some (.iconst 1, 1, 0, 0, .null) := by decide +kernel
theorem zfL_910 : zg zcL 910 = some (.iadd, 1, 0, 0, .null) := by decide +kernel
theorem zfL_911 : zg zcL 911 = some (.iaload, 1, 0, 0, .null) := by decide +kernel
theorem zfL_912 : zg zcL 912 = some (.invokevirtual 124, 3, 152, 0, .null) := by decide +kernel
theorem har152 : zar 152 = (1, 10) := by decide +kernel
theorem zfL_915 : zg zcL 915 = some (.aload_n 2, 1, 0, 0, .null) := by decide +kernel
theorem zfL_916 : zg zcL 916 = some (.aload_n 0, 1, 0, 0, .null) := by decide +kernel
theorem zfL_917 : zg zcL 917 = some (.iload_n 3, 1, 0, 0, .null) := by decide +kernel
theorem zfL_918 : zg zcL 918 = some (.iconst 1, 1, 0, 0, .null) := by decide +kernel
theorem zfL_919 : zg zcL 919 = some (.iadd, 1, 0, 0, .null) := by decide +kernel
theorem zfL_920 : zg zcL 920 = some (.iaload, 1, 0, 0, .null) := by decide +kernel
theorem zfL_921 : zg zcL 921 = some (.invokevirtual 127, 3, 273, 0, .null) := by decide +kernel
theorem har273 : zar 273 = (1, 11) := by decide +kernel
theorem zfL_924 : zg zcL 924 = some (.if_icmp .eq 117, 3, 1041, 0, .null) := by decide +kernel
theorem zfL_929 : zg zcL 929 = some (.aload_n 1, 1, 0, 0, .null) := by decide +kernel
theorem zfL_930 : zg zcL 930 = some (.aload_n 0, 1, 0, 0, .null) := by decide +kernel
theorem zfL_931 : zg zcL 931 = some (.iload_n 3, 1, 0, 0, .null) := by decide +kernel
theorem zfL_932 : zg zcL 932 = some (.iconst 1, 1, 0, 0, .null) := by decide +kernel
theorem zfL_933 : zg zcL 933 = some (.iadd, 1, 0, 0, .null) := by decide +kernel
theorem zfL_934 : zg zcL 934 = some (.iaload, 1, 0, 0, .null) := by decide +kernel
theorem zfL_935 : zg zcL 935 = some (.aload_n 0, 1, 0, 0, .null) := by decide +kernel
theorem zfL_936 : zg zcL 936 = some (.iload_n 3, 1, 0, 0, .null) := by decide +kernel
theorem zfL_937 : zg zcL 937 = some (.iconst 2, 1, 0, 0, .null) := by decide +kernel
theorem zfL_938 : zg zcL 938 = some (.iadd, 1, 0, 0, .null) := by decide +kernel
theorem zfL_939 : zg zcL 939 = some (.iaload, 1, 0, 0, .null) := by decide +kernel
theorem zfL_940 : zg zcL 940 = some (.aload_n 0, 1, 0, 0, .null) := by decide +kernel
theorem zfL_941 : zg zcL 941 = some (.iload_n 3, 1, 0, 0, .null) := by decide +kernel
theorem zfL_942 : zg zcL 942 = some (.iconst 3, 1, 0, 0, .null) := by decide +kernel
theorem zfL_943 : zg zcL 943 = some (.iadd, 1, 0, 0, .null) := by decide +kernel
theorem zfL_944 : zg zcL 944 = some (.iaload, 1, 0, 0, .null) := by decide +kernel
theorem zfL_945 : zg zcL 945 = some (.invokevirtual 128, 3, 153, 0, .null) := by decide +kernel
theorem har153 : zar 153 = (3, 10) := by decide +kernel
theorem zfL_948 : zg zcL 948 = some (.aload_n 2, 1, 0, 0, .null) := by decide +kernel
theorem zfL_949 : zg zcL 949 = some (.aload_n 0, 1, 0, 0, .null) := by decide +kernel
theorem zfL_950 : zg zcL 950 = some (.iload_n 3, 1, 0, 0, .null) := by decide +kernel
theorem zfL_951 : zg zcL 951 = some (.iconst 1, 1, 0, 0, .null) := by decide +kernel
theorem zfL_952 : zg zcL 952 = some (.iadd, 1, 0, 0, .null) := by decide +kernel
theorem zfL_953 : zg zcL 953 = some (.iaload, 1, 0, 0, .null) := by decide +kernel
theorem zfL_954 : zg zcL 954 = some (.aload_n 0, 1, 0, 0, .null) := by decide +kernel
theorem zfL_955 : zg zcL 955 = some (.iload_n 3, 1, 0, 0, .null) := by decide +kernel
theorem zfL_956 : zg zcL 956 = some (.iconst 2, 1, 0, 0, .null) := by decide +kernel
theorem zfL_957 : zg zcL 957 = some (.iadd, 1, 0, 0, .null) := by decide +kernel
theorem zfL_958 : zg zcL 958 = some (.iaload, 1, 0, 0, .null) := by decide +kernel
theorem zfL_959 : zg zcL 959 = some (.aload_n 0, 1, 0, 0, .null) := by decide +kernel
theorem zfL_960 : zg zcL 960 = some (.iload_n 3, 1, 0, 0, .null) := by decide +kernel
theorem zfL_961 : zg zcL 961 = some (.iconst 3, 1, 0, 0, .null) := by decide +kernel
theorem zfL_962 : zg zcL 962 = some (.iadd, 1, 0, 0, .null) := by decide +kernel
theorem zfL_963 : zg zcL 963 = some (.iaload, 1, 0, 0, .null) := by decide +kernel
theorem zfL_964 : zg zcL 964 = some (.invokevirtual 131, 3, 276, 0, .null) := by decide +kernel
theorem har276 : zar 276 = (3, 11) := by decide +kernel
theorem zfL_967 : zg zcL 967 = some (.if_icmp .eq 74, 3, 1041, 0, .null) := by decide +kernel
theorem zfL_972 : zg zcL 972 = some (.aload_n 1, 1, 0, 0, .null) := by decide +kernel
theorem zfL_973 : zg zcL 973 = some (.aload_n 0, 1, 0, 0, .null) := by decide +kernel
theorem zfL_974 : zg zcL 974 = some (.iload_n 3, 1, 0, 0, .null) := by decide +kernel
theorem zfL_975 : zg zcL 975 = some (.iconst 1, 1, 0, 0, .null) := by decide +kernel
theorem zfL_976 : zg zcL 976 = some (.iadd, 1, 0, 0, .null) := by decide +kernel
theorem zfL_977 : zg zcL 977 = some (.iaload, 1, 0, 0, .null) := by decide +kernel
theorem zfL_978 : zg zcL 978 = some (.invokevirtual 132, 3, 154, 0, .null) := by decide +kernel
theorem har154 : zar 154 = (1, 10) := by decide +kernel
theorem zfL_981 : zg zcL 981 = some (.aload_n 2, 1, 0, 0, .null) := by decide +kernel
theorem zfL_982 : zg zcL 982 = some (.aload_n 0, 1, 0, 0, .null) := by decide +kernel
theorem zfL_983 : zg zcL 983 = some (.iload_n 3, 1, 0, 0, .null) := by decide +kernel
theorem zfL_984 : zg zcL 984 = some (.iconst 1, 1, 0, 0, .null) := by decide +kernel
theorem zfL_985 : zg zcL 985 = some (.iadd, 1, 0, 0, .null) := by decide +kernel
theorem zfL_986 : zg zcL 986 = some (.iaload, 1, 0, 0, .null) := by decide +kernel
theorem zfL_987 : zg zcL 987 = some (.invokevirtual 135, 3, 277, 0, .null) := by decide +kernel
theorem har277 : zar 277 = (1, 11) := by decide +kernel
theorem zfL_990 : zg zcL 990 = some (.if_icmp .eq 51, 3, 1041, 0, .null) := by decide +kernel
theorem zfL_995 : zg zcL 995 = some (.aload_n 1, 1, 0, 0, .null) := by decide +kernel
theorem zfL_996 : zg zcL 996 = some (.aload_n 0, 1, 0, 0, .null) := by decide +kernel
theorem zfL_997 : zg zcL 997 = some (.iload_n 3, 1, 0, 0, .null) := by decide +kernel
theorem zfL_998 : zg zcL 998 = some (.iconst 1, 1, 0, 0, .null) := by decide +kernel
theorem zfL_999 : zg zcL 999 = some (.iadd, 1, 0, 0, .null) := by decide +kernel
theorem zfL_1000 : zg zcL 1000 = some (.iaload, 1, 0, 0, .null) := by decide +kernel
theorem zfL_1001 : zg zcL 1001 = some (.invokevirtual 136, 3, 155, 0, .null) := by decide +kernel
theorem har155 : zar 155 = (1, 10) := by decide +kernel
theorem zfL_1004 : zg zcL 1004 = some (.aload_n 2, 1, 0, 0, .null) := by decide +kernel
theorem zfL_1005 : zg zcL 1005 = some (.aload_n 0, 1, 0, 0, .null) := by decide +kernel
theorem zfL_1006 : zg zcL 1006 = some (.iload_n 3, 1, 0, 0, .null) := by decide +kernel
theorem zfL_1007 : zg zcL 1007 = some (.iconst 1, 1, 0, 0, .null) := by decide +kernel
theorem zfL_1008 : zg zcL 1008 = some (.iadd, 1, 0, 0, .null) := by decide +kernel
theorem zfL_1009 : zg zcL 1009 = some (.iaload, 1, 0, 0, .null) := by decide +kernel
theorem zfL_1010 : zg zcL 1010 = some (.invokevirtual 139, 3, 278, 0, .null) := by decide +kernel
theorem har278 : zar 278 = (1, 11) := by decide +kernel
theorem zfL_1013 : zg zcL 1013 = some (.if_icmp .eq 28, 3, 1041, 0, .null) := by decide +kernel
theorem zfL_1018 : zg zcL 1018 = some (.aload_n 1, 1, 0, 0, .null) := by decide +kernel
theorem zfL_1019 : zg zcL 1019 = some (.aload_n 0, 1, 0, 0, .null) := by decide +kernel
theorem zfL_1020 : zg zcL 1020 = some (.iload_n 3, 1, 0, 0, .null) := by decide +kernel
theorem zfL_1021 : zg zcL 1021 = some (.iconst 1, 1, 0, 0, .null) := by decide +kernel
theorem zfL_1022 : zg zcL 1022 = some (.iadd, 1, 0, 0, .null) := by decide +kernel
theorem zfL_1023 : zg zcL 1023 = some (.iaload, 1, 0, 0, .null) := by decide +kernel
theorem zfL_1024 : zg zcL 1024 = some (.invokevirtual 140, 3, 156, 0, .null) := by decide +kernel
theorem har156 : zar 156 = (1, 10) := by decide +kernel
theorem zfL_1027 : zg zcL 1027 = some (.aload_n 2, 1, 0, 0, .null) := by decide +kernel
theorem zfL_1028 : zg zcL 1028 = some (.aload_n 0, 1, 0, 0, .null) := by decide +kernel
theorem zfL_1029 : zg zcL 1029 = some (.iload_n 3, 1, 0, 0, .null) := by decide +kernel
theorem zfL_1030 : zg zcL 1030 = some (.iconst 1, 1, 0, 0, .null) := by decide +kernel
theorem zfL_1031 : zg zcL 1031 = some (.iadd, 1, 0, 0, .null) := by decide +kernel
theorem zfL_1032 : zg zcL 1032 = some (.iaload, 1, 0, 0, .null) := by decide +kernel
theorem zfL_1033 : zg zcL 1033 = some (.invokevirtual 143, 3, 279, 0, .null) := by decide +kernel
theorem har279 : zar 279 = (1, 11) := by decide +kernel
theorem zfL_1036 : zg zcL 1036 = some (.if_icmp .eq 5, 3, 1041, 0, .null) := by decide +kernel
theorem zfL_1041 : zg zcL 1041 = some (.iinc 3 6, 3, 0, 0, .null) := by decide +kernel
theorem zfL_1044 : zg zcL 1044 = some (.goto (-1026), 3, 18, 0, .null) := by decide +kernel
theorem zfL_18 : zg zcL 18 = some (.iload_n 3, 1, 0, 0, .null) := by decide +kernel
theorem zfL_19 : zg zcL 19 = some (.aload_n 0, 1, 0, 0, .null) := by decide +kernel
theorem zfL_20 : zg zcL 20 = some (.arraylength, 1, 0, 0, .null) := by decide +kernel
theorem zfL_21 : zg zcL 21 = some (.bipush 6, 2, 0, 0, .null) := by decide +kernel
theorem zfL_23 : zg zcL 23 = some (.isub, 1, 0, 0, .null) := by decide +kernel
theorem zfL_24 : zg zcL 24 = some (.if_icmp .gt 1023, 3, 1047, 0, .null) := by decide +kernel
theorem zfL_1047 : zg zcL 1047 = some (.iconst 1, 1, 0, 0, .null) := by decide +kernel
theorem zfL_1048 : zg zcL 1048 = some (.ireturn, 1, 0, 0, .null) := by decide +kernel
theorem zfL_27 : zg zcL 27 = some (.aload_n 0, 1, 0, 0, .null) := by decide +kernel
theorem zfL_28 : zg zcL 28 = some (.iload_n 3, 1, 0, 0, .null) := by decide +kernel
theorem zfL_29 : zg zcL 29 = some (.iaload, 1, 0, 0, .null) := by decide +kernel
theorem zfL_30 : zg zcL 30 = some (.bipush 31, 2, 0, 0, .null) := by decide +kernel
theorem zfL_32 : zg zcL 32 = some (.iand, 1, 0, 0, .null) := by decide +kernel
theorem zfL_33 : zg zcL 33 = some (.tableswitch 1008 0 30 #[139, 202, 225, 238, 251, 284, 317, 360, 393, 416, 439, 472, 485, 518, 531, 544, 577, 646, 669, 692, 725, 748, 771, 794, 827, 850, 873, 896, 939, 962, 985], 139, 0, 0, .null) := by decide +kernel
