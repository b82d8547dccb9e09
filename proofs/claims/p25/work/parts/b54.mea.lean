/-! The class measures rows of houses by sets. -/
theorem tbe {b h : Nat} (hb : b < 64) (hh : h < 6) : zcmp .eq ((Int32.ofNat b >>> (Int32.ofNat h &&& 31)) &&& 1) 0 = !b.testBit h := by
  have k := tbn hb hh
  rw [zcn] at k
  rw [zce, ← k, Bool.not_not]
theorem or64 {a b : Nat} (ha : a < 64) (hb : b < 64) : Int32.ofNat a ||| Int32.ofNat b = Int32.ofNat (a ||| b) := by
  have key : (List.range 64).all (fun a => (List.range 64).all (fun b => (Int32.ofNat a ||| Int32.ofNat b) == Int32.ofNat (a ||| b))) = true := by decide +kernel
  exact eq_of_beq (List.all_eq_true.mp (List.all_eq_true.mp key a (List.mem_range.mpr ha)) b (List.mem_range.mpr hb))
theorem xor64 {a b : Nat} (ha : a < 64) (hb : b < 64) : Int32.ofNat a ^^^ Int32.ofNat b = Int32.ofNat (a ^^^ b) := by
  have key : (List.range 64).all (fun a => (List.range 64).all (fun b => (Int32.ofNat a ^^^ Int32.ofNat b) == Int32.ofNat (a ^^^ b))) = true := by decide +kernel
  exact eq_of_beq (List.all_eq_true.mp (List.all_eq_true.mp key a (List.mem_range.mpr ha)) b (List.mem_range.mpr hb))
theorem anx64 {a b : Nat} (ha : a < 64) (hb : b < 64) : Int32.ofNat a &&& (Int32.ofNat b ^^^ (-1)) = Int32.ofNat (a &&& (63 ^^^ b)) := by
  have key : (List.range 64).all (fun a => (List.range 64).all (fun b => (Int32.ofNat a &&& (Int32.ofNat b ^^^ (-1))) == Int32.ofNat (a &&& (63 ^^^ b)))) = true := by decide +kernel
  exact eq_of_beq (List.all_eq_true.mp (List.all_eq_true.mp key a (List.mem_range.mpr ha)) b (List.mem_range.mpr hb))
theorem p2N {N : Nat} (hN : N ≤ 6) : (1 : Int32) <<< (Int32.ofNat N &&& 31) = Int32.ofNat (2 ^ N) := by
  have key : (List.range 7).all (fun N => ((1 : Int32) <<< (Int32.ofNat N &&& 31)) == Int32.ofNat (2 ^ N)) = true := by decide +kernel
  exact eq_of_beq (List.all_eq_true.mp key N (List.mem_range.mpr (by omega)))
theorem tb_and {x y : Int32} {d : Nat} : tbt (x &&& y) d = (tbt x d && tbt y d) := by
  unfold tbt
  rw [Int32.toBitVec_and, BitVec.getLsbD_and]
theorem tb_xor {x y : Int32} {d : Nat} : tbt (x ^^^ y) d = (tbt x d ^^ tbt y d) := by
  unfold tbt
  rw [Int32.toBitVec_xor, BitVec.getLsbD_xor]
theorem tb_nat {S d : Nat} (hS : S < 64) (hd : d < 6) : tbt (Int32.ofNat S) d = S.testBit d := by
  have key : (List.range 64).all (fun S => (List.range 6).all (fun d => tbt (Int32.ofNat S) d == S.testBit d)) = true := by decide +kernel
  exact eq_of_beq (List.all_eq_true.mp (List.all_eq_true.mp key S (List.mem_range.mpr hS)) d (List.mem_range.mpr hd))
theorem tb_m1 {d : Nat} (hd : d < 6) : tbt (-1) d = true := by
  have key : (List.range 6).all (fun d => tbt (-1) d) = true := by decide +kernel
  exact List.all_eq_true.mp key d (List.mem_range.mpr hd)
/-- a number's six lowest bits -/
def nb6 (x : Int32) : Nat := x.toBitVec.toNat % 2 ^ 6
theorem nb6_b (x : Int32) : nb6 x < 64 := Nat.mod_lt _ (by decide)
theorem nb6_t {x : Int32} {d : Nat} (hd : d < 6) : (nb6 x).testBit d = tbt x d := by
  unfold nb6 tbt
  rw [Nat.testBit_mod_two_pow, decide_eq_true hd, Bool.true_and, BitVec.testBit_toNat]
def zS0 : xS := (fun _ _ => 0, fun _ _ => 0)
theorem bc64 {F x : Nat} {m : xS} (hx : x < 64) : D280 F (Int32.ofNat x) m = some (Int32.ofNat (pc6 x), m) := by
  have key : (List.range 64).all (fun x => (D280 0 (Int32.ofNat x) zS0).map (fun q => q.1) == some (Int32.ofNat (pc6 x))) = true := by decide +kernel
  have k := eq_of_beq (List.all_eq_true.mp key x (List.mem_range.mpr hx))
  have e : D280 F (Int32.ofNat x) m = (D280 0 (Int32.ofNat x) zS0).map (fun q => (q.1, m)) := rfl
  rw [e]
  cases h : D280 0 (Int32.ofNat x) zS0 with
  | none =>
    rw [h] at k
    cases k
  | some q =>
    rw [h] at k
    have k : some q.1 = some (Int32.ofNat (pc6 x)) := k
    show some (q.1, m) = _
    rw [Option.some.inj k]
theorem mx32 {x y : Int32} : (if x < y then y else x).toInt = if x.toInt < y.toInt then y.toInt else x.toInt := by
  by_cases h : x < y
  · rw [if_pos h, if_pos (Int32.lt_iff_toInt_lt.mp h)]
  · rw [if_neg h, if_neg (fun z => h (Int32.lt_iff_toInt_lt.mpr z))]
section PNMO
variable {N e h : Nat} {L : Int} {mo : Nat → Int}
theorem nmo_e (q : N ≤ h) : nmo N e L h mo = mo := funext fun j => if_neg (fun z => by
  obtain ⟨z1, z2, _⟩ := z
  omega)
theorem nfe_e (q : N ≤ h) : nfe N e L h mo = mo := funext fun j => if_neg (fun z => by
  obtain ⟨z1, z2, _⟩ := z
  omega)
theorem nst_s (c : e.testBit h = false) (j : Nat) : (h + 1 ≤ j ∧ j < N ∧ e.testBit j = true) ↔ (h ≤ j ∧ j < N ∧ e.testBit j = true) := by
  constructor
  · rintro ⟨z1, z2, z3⟩
    exact ⟨by omega, z2, z3⟩
  · rintro ⟨z1, z2, z3⟩
    refine ⟨?_, z2, z3⟩
    by_cases y : j = h
    · subst y
      rw [c] at z3
      cases z3
    · omega
theorem nmo_s (c : e.testBit h = false) : nmo N e L (h + 1) mo = nmo N e L h mo := funext fun j => by
  unfold nmo
  simp only [nst_s c j]
theorem nfe_s (c : e.testBit h = false) : nfe N e L (h + 1) mo = nfe N e L h mo := funext fun j => by
  unfold nfe
  simp only [nst_s c j]
theorem nmo_u (hh : h < N) (c : e.testBit h = true) : nmo N e L (h + 1) (fun j => if j = h then (if mo h < L then L else mo h) else mo j) = nmo N e L h mo := funext fun j => by
  unfold nmo
  by_cases y : j = h
  · subst y
    have a1 : ¬ (j + 1 ≤ j ∧ j < N ∧ e.testBit j = true) := fun z => by omega
    have a2 : j ≤ j ∧ j < N ∧ e.testBit j = true := ⟨Nat.le_refl _, hh, c⟩
    rw [if_neg a1, if_pos a2]
    exact if_pos rfl
  · have e1 : (h + 1 ≤ j ∧ j < N ∧ e.testBit j = true) ↔ (h ≤ j ∧ j < N ∧ e.testBit j = true) := ⟨fun ⟨a, b⟩ => ⟨by omega, b⟩, fun ⟨a, b⟩ => ⟨by omega, b⟩⟩
    simp only [e1, if_neg y]
theorem nfe_u (hh : h < N) (c : e.testBit h = true) : nfe N e L (h + 1) (fun j => if j = h then (if mo h = -1 ∨ L < mo h then L else mo h) else mo j) = nfe N e L h mo := funext fun j => by
  unfold nfe
  by_cases y : j = h
  · subst y
    have a1 : ¬ (j + 1 ≤ j ∧ j < N ∧ e.testBit j = true) := fun z => by omega
    have a2 : j ≤ j ∧ j < N ∧ e.testBit j = true := ⟨Nat.le_refl _, hh, c⟩
    rw [if_neg a1, if_pos a2]
    exact if_pos rfl
  · have e1 : (h + 1 ≤ j ∧ j < N ∧ e.testBit j = true) ↔ (h ≤ j ∧ j < N ∧ e.testBit j = true) := ⟨fun ⟨a, b⟩ => ⟨by omega, b⟩, fun ⟨a, b⟩ => ⟨by omega, b⟩⟩
    simp only [e1, if_neg y]
end PNMO
section PNL44
variable {m : xS} {F : Nat}
theorem c2_44 {N e L : Nat} (hN : N ≤ 6) (he : e < 64) (hL : L < 10) : ∀ (f : Nat) {h : Nat} {m : xS} {mo fe : Nat → Int}, (∀ j, j < 6 → (m.1 45 j).toInt = mo j ∧ (m.1 46 j).toInt = fe j) → h ≤ N → N - h < f → ∃ m', D2_44_3 F f (Int32.ofNat N) (Int32.ofNat e) (Int32.ofNat L) (Int32.ofNat h) m = some ((), m') ∧ (∀ j, j < 6 → (m'.1 45 j).toInt = nmo N e L h mo j ∧ (m'.1 46 j).toInt = nfe N e L h fe j) ∧ (∀ i, i ≠ 45 → i ≠ 46 → m'.1 i = m.1 i) ∧ m'.2 = m.2 := by
  have eN := nJ (n := N) (by omega)
  have eL := nJ (n := L) (by omega)
  intro f
  induction f with
  | zero => intro h m mo fe _ _ l; omega
  | succ f ih =>
    intro h m mo fe hm hh l
    have eh := nJ (n := h) (by omega)
    unfold D2_44_3
    by_cases q : N ≤ h
    · rw [nmo_e q, nfe_e q]
      exact ⟨m, oT (zc.trans (decide_eq_true (by omega))) rfl, hm, fun _ _ _ => rfl, rfl⟩
    · have g : zcmp .ge (Int32.ofNat h) (Int32.ofNat N) = false := zc.trans (decide_eq_false (by omega))
      have h6 : h < 6 := by omega
      have nx : ∀ {m2 : xS} {mo2 fe2 : Nat → Int}, (∀ j, j < 6 → (m2.1 45 j).toInt = mo2 j ∧ (m2.1 46 j).toInt = fe2 j) → nmo N e L (h + 1) mo2 = nmo N e L h mo → nfe N e L (h + 1) fe2 = nfe N e L h fe → (∀ i, i ≠ 45 → i ≠ 46 → m2.1 i = m.1 i) → m2.2 = m.2 → ∃ m', D2_44_66 F (D2_44_3 F f) (Int32.ofNat N) (Int32.ofNat e) (Int32.ofNat L) (Int32.ofNat h) m2 = some ((), m') ∧ (∀ j, j < 6 → (m'.1 45 j).toInt = nmo N e L h mo j ∧ (m'.1 46 j).toInt = nfe N e L h fe j) ∧ (∀ i, i ≠ 45 → i ≠ 46 → m'.1 i = m.1 i) ∧ m'.2 = m.2 := fun {m2 mo2 fe2} k1 k2 k3 k4 k5 => by
        obtain ⟨m', d1, d2, d3, d4⟩ := ih (h := h + 1) (m := m2) k1 (by omega) (by omega)
        rw [k2, k3] at d2
        refine ⟨m', ?_, d2, fun i a b => (d3 i a b).trans (k4 i a b), d4.trans k5⟩
        unfold D2_44_66
        rw [(o1 (n := h) (by omega)).2.2]
        exact d1
      by_cases c : e.testBit h = true
      · obtain ⟨a1, a2⟩ := hm h h6
        have t1 : zcmp .eq ((Int32.ofNat e >>> (Int32.ofNat h &&& 31)) &&& 1) 0 = false := (tbe he h6).trans (by rw [c]; rfl)
        have x6 : xib (Int32.ofNat h) 6 = true := gxb eh h6
        have vm : (if m.1 45 h < Int32.ofNat L then Int32.ofNat L else m.1 45 h).toInt = if mo h < (L : Int) then (L : Int) else mo h := by rw [mx32, a1, eL]
        have kA : ∀ {v : Int32} {j : Nat}, j < 6 → v.toInt = (if mo h < (L : Int) then (L : Int) else mo h) → ((xu m 45 h v).1 45 j).toInt = if j = h then (if mo h < (L : Int) then (L : Int) else mo h) else mo j := fun {v j} hj hv => by
          by_cases y : j = h
          · subst y
            rw [xu_s, if_pos rfl, hv]
          · rw [xu_o (fun z => y z.2), if_neg y]
            exact (hm j hj).1
        generalize hw : (if m.1 45 h < Int32.ofNat L then Int32.ofNat L else m.1 45 h) = v at *
        have put : D2_44_58 F (D2_44_3 F f) (Int32.ofNat N) (Int32.ofNat e) (Int32.ofNat L) (Int32.ofNat h) (xu m 45 h v) = D2_44_66 F (D2_44_3 F f) (Int32.ofNat N) (Int32.ofNat e) (Int32.ofNat L) (Int32.ofNat h) (xu (xu m 45 h v) 46 h (Int32.ofNat L)) := by
          unfold D2_44_58
          rw [if_pos x6, gxn eh]
        have kB : ∀ j, j < 6 → ((xu (xu m 45 h v) 46 h (Int32.ofNat L)).1 45 j).toInt = (if j = h then (if mo h < (L : Int) then (L : Int) else mo h) else mo j) ∧ ((xu (xu m 45 h v) 46 h (Int32.ofNat L)).1 46 j).toInt = if j = h then (L : Int) else fe j := fun j hj => by
          refine ⟨by rw [xu_o (fun z => absurd z.1 (by decide))]; exact kA hj vm, ?_⟩
          by_cases y : j = h
          · subst y
            rw [xu_s, if_pos rfl, eL]
          · rw [xu_o (fun z => y z.2), if_neg y, xu_o (fun z => absurd z.1 (by decide))]
            exact (hm j hj).2
        by_cases y : fe h = -1
        · have e1 : zcmp .eq (m.1 46 h) (-1) = true := by
            rw [zce, beq_iff_eq]
            exact Int32.toInt_inj.mp (a2.trans y)
          obtain ⟨m', d1, d⟩ := nx (m2 := xu (xu m 45 h v) 46 h (Int32.ofNat L)) (mo2 := fun j => if j = h then (if mo h < (L : Int) then (L : Int) else mo h) else mo j) (fe2 := fun j => if j = h then (if fe h = -1 ∨ (L : Int) < fe h then (L : Int) else fe h) else fe j) (fun j hj => by
            rw [if_pos (show fe h = -1 ∨ (L : Int) < fe h from Or.inl y)]
            exact kB j hj) (nmo_u (by omega) c) (nfe_u (by omega) c) (fun i b1 b2 => by rw [xu_row b2, xu_row b1]) rfl
          refine ⟨m', oF g (oF t1 (oT x6 (oT x6 (oT x6 ?_)))), d⟩
          rw [gxn eh, hw]
          exact oT e1 (put.trans d1)
        · have e1 : zcmp .eq (m.1 46 h) (-1) = false := by
            rw [zce, beq_eq_false_iff_ne]
            intro z
            have z := congrArg Int32.toInt z
            rw [a2] at z
            exact y z
          by_cases w : (L : Int) < fe h
          · have e2 : zcmp .ge (Int32.ofNat L) (m.1 46 h) = false := zc.trans (decide_eq_false (by omega))
            obtain ⟨m', d1, d⟩ := nx (m2 := xu (xu m 45 h v) 46 h (Int32.ofNat L)) (mo2 := fun j => if j = h then (if mo h < (L : Int) then (L : Int) else mo h) else mo j) (fe2 := fun j => if j = h then (if fe h = -1 ∨ (L : Int) < fe h then (L : Int) else fe h) else fe j) (fun j hj => by
              rw [if_pos (show fe h = -1 ∨ (L : Int) < fe h from Or.inr w)]
              exact kB j hj) (nmo_u (by omega) c) (nfe_u (by omega) c) (fun i b1 b2 => by rw [xu_row b2, xu_row b1]) rfl
            refine ⟨m', oF g (oF t1 (oT x6 (oT x6 (oT x6 ?_)))), d⟩
            rw [gxn eh, hw]
            exact oF e1 (oT x6 (oF e2 (put.trans d1)))
          · have e2 : zcmp .ge (Int32.ofNat L) (m.1 46 h) = true := zc.trans (decide_eq_true (by omega))
            obtain ⟨m', d1, d⟩ := nx (m2 := xu m 45 h v) (mo2 := fun j => if j = h then (if mo h < (L : Int) then (L : Int) else mo h) else mo j) (fe2 := fun j => if j = h then (if fe h = -1 ∨ (L : Int) < fe h then (L : Int) else fe h) else fe j) (fun j hj => by
              refine ⟨kA hj vm, ?_⟩
              rw [xu_o (fun z => absurd z.1 (by decide)), if_neg (show ¬ (fe h = -1 ∨ (L : Int) < fe h) from fun z => z.elim y w)]
              by_cases u : j = h
              · subst u
                rw [if_pos rfl]
                exact a2
              · rw [if_neg u]
                exact (hm j hj).2) (nmo_u (by omega) c) (nfe_u (by omega) c) (fun i b1 b2 => xu_row b1) rfl
            refine ⟨m', oF g (oF t1 (oT x6 (oT x6 (oT x6 ?_)))), d⟩
            rw [gxn eh, hw]
            exact oF e1 (oT x6 (oT e2 d1))
      · have c : e.testBit h = false := by simpa using c
        have t1 : zcmp .eq ((Int32.ofNat e >>> (Int32.ofNat h &&& 31)) &&& 1) 0 = true := (tbe he h6).trans (by rw [c]; rfl)
        obtain ⟨m', d1, d⟩ := nx hm (nmo_s c) (nfe_s c) (fun _ _ _ => rfl) rfl
        exact ⟨m', oF g (oT t1 d1), d⟩
theorem fl_45 {v : Int32} : ∀ (f : Nat) {j : Nat} {m : xS}, j ≤ 6 → 6 - j < f → ∃ m', D291_45_5 F f v (Int32.ofNat j) (Int32.ofNat 6) m = some ((), m') ∧ (∀ i, j ≤ i → i < 6 → m'.1 45 i = v) ∧ (∀ i, i < j → m'.1 45 i = m.1 45 i) ∧ (∀ i, i ≠ 45 → m'.1 i = m.1 i) ∧ m'.2 = m.2 := by
  intro f
  induction f with
  | zero => intro j m _ l; omega
  | succ f ih =>
    intro j m hj l
    have ej := nJ (n := j) (by omega)
    have eK := nJ (n := 6) (by decide)
    unfold D291_45_5
    by_cases q : 6 ≤ j
    · exact ⟨m, oT (zc.trans (decide_eq_true (by omega))) rfl, fun i a b => by omega, fun _ _ => rfl, fun _ _ => rfl, rfl⟩
    · obtain ⟨m', d1, d2, d3, d4, d5⟩ := ih (j := j + 1) (m := xu m 45 j v) (by omega) (by omega)
      refine ⟨m', oF (zc.trans (decide_eq_false (by omega))) (oT (gxb ej (by omega)) ?_), fun i a b => ?_, fun i a => ?_, fun i a => (d4 i a).trans (xu_row a), d5⟩
      · rw [gxn ej, (o1 (n := j) (by omega)).2.2]
        exact d1
      · by_cases y : i = j
        · subst y
          rw [d3 i (by omega), xu_s]
        · exact d2 i (by omega) b
      · rw [d3 i (by omega), xu_o (fun z => by omega)]
theorem fl_46 {v : Int32} : ∀ (f : Nat) {j : Nat} {m : xS}, j ≤ 6 → 6 - j < f → ∃ m', D291_46_5 F f v (Int32.ofNat j) (Int32.ofNat 6) m = some ((), m') ∧ (∀ i, j ≤ i → i < 6 → m'.1 46 i = v) ∧ (∀ i, i < j → m'.1 46 i = m.1 46 i) ∧ (∀ i, i ≠ 46 → m'.1 i = m.1 i) ∧ m'.2 = m.2 := by
  intro f
  induction f with
  | zero => intro j m _ l; omega
  | succ f ih =>
    intro j m hj l
    have ej := nJ (n := j) (by omega)
    have eK := nJ (n := 6) (by decide)
    unfold D291_46_5
    by_cases q : 6 ≤ j
    · exact ⟨m, oT (zc.trans (decide_eq_true (by omega))) rfl, fun i a b => by omega, fun _ _ => rfl, fun _ _ => rfl, rfl⟩
    · obtain ⟨m', d1, d2, d3, d4, d5⟩ := ih (j := j + 1) (m := xu m 46 j v) (by omega) (by omega)
      refine ⟨m', oF (zc.trans (decide_eq_false (by omega))) (oT (gxb ej (by omega)) ?_), fun i a b => ?_, fun i a => ?_, fun i a => (d4 i a).trans (xu_row a), d5⟩
      · rw [gxn ej, (o1 (n := j) (by omega)).2.2]
        exact d1
      · by_cases y : i = j
        · subst y
          rw [d3 i (by omega), xu_s]
        · exact d2 i (by omega) b
      · rw [d3 i (by omega), xu_o (fun z => by omega)]
theorem fl_47 {v : Int32} : ∀ (f : Nat) {j : Nat} {m : xS}, j ≤ 64 → 64 - j < f → ∃ m', D291_47_5 F f v (Int32.ofNat j) (Int32.ofNat 64) m = some ((), m') ∧ (∀ i, j ≤ i → i < 64 → m'.1 47 i = v) ∧ (∀ i, i < j → m'.1 47 i = m.1 47 i) ∧ (∀ i, i ≠ 47 → m'.1 i = m.1 i) ∧ m'.2 = m.2 := by
  intro f
  induction f with
  | zero => intro j m _ l; omega
  | succ f ih =>
    intro j m hj l
    have ej := nJ (n := j) (by omega)
    have eK := nJ (n := 64) (by decide)
    unfold D291_47_5
    by_cases q : 64 ≤ j
    · exact ⟨m, oT (zc.trans (decide_eq_true (by omega))) rfl, fun i a b => by omega, fun _ _ => rfl, fun _ _ => rfl, rfl⟩
    · obtain ⟨m', d1, d2, d3, d4, d5⟩ := ih (j := j + 1) (m := xu m 47 j v) (by omega) (by omega)
      refine ⟨m', oF (zc.trans (decide_eq_false (by omega))) (oT (gxb ej (by omega)) ?_), fun i a b => ?_, fun i a => ?_, fun i a => (d4 i a).trans (xu_row a), d5⟩
      · rw [gxn ej, (o1 (n := j) (by omega)).2.2]
        exact d1
      · by_cases y : i = j
        · subst y
          rw [d3 i (by omega), xu_s]
        · exact d2 i (by omega) b
      · rw [d3 i (by omega), xu_o (fun z => by omega)]
end PNL44
section PMS44_9
variable {s : Nat → Int32} {T : Nat → Nat} {N : Nat} {F : Nat}
theorem c3_52_44_9 (e0 : s 0 = Int32.ofNat N) (hN : N ≤ 6) {S R : Nat} {y : Int32} (hS : S < 64) (hR : ∀ d, d < 6 → tbt y d = R.testBit d) : ∀ (f : Nat) {h : Nat} {m : xS} {E : Nat → Nat}, R32 s (m.1 10) → (∀ X, X < 64 → m.1 47 X = Int32.ofNat (E X) ∧ E X < 64) → h ≤ N → N - h < f → ∃ m', D3_44_9_52 F f (Int32.ofNat S) y (Int32.ofNat h) m = some ((), m') ∧ (∀ X, X < 64 → m'.1 47 X = Int32.ofNat (mpu S R h (N - h) E X) ∧ mpu S R h (N - h) E X < 64) ∧ (∀ i, i ≠ 47 → m'.1 i = m.1 i) ∧ m'.2 = m.2 := by
  have eN := nJ (n := N) (by omega)
  intro f
  induction f with
  | zero => intro h m E _ _ _ l; omega
  | succ f ih =>
    intro h m E Rm hE hh l
    have eh := nJ (n := h) (by omega)
    have r77 := c77_9 (F := F) Rm
    rw [e0] at r77
    unfold D3_44_9_52
    by_cases q : N ≤ h
    · rw [show N - h = 0 by omega]
      exact ⟨m, ob r77 (oT (zc.trans (decide_eq_true (by dsimp only; omega))) rfl), hE, fun _ _ => rfl, rfl⟩
    · rw [show N - h = (N - (h + 1)) + 1 by omega]
      have g : zcmp .ge (Int32.ofNat h) (Int32.ofNat N) = false := zc.trans (decide_eq_false (by omega))
      have h6 : h < 6 := by omega
      by_cases c : R.testBit h = true
      · have t1 : zcmp .eq ((y >>> (Int32.ofNat h &&& 31)) &&& 1) 0 = false := (tbu h6).trans (by rw [hR h h6, c]; rfl)
        obtain ⟨b1, b2⟩ := bor hS h6
        obtain ⟨v1, v2⟩ := hE (S ||| 2 ^ h) b2
        obtain ⟨w1, w2⟩ := bor v2 h6
        have eS := nJ (n := S ||| 2 ^ h) (by omega)
        obtain ⟨m', d1, d2, d3, d4⟩ := ih (h := h + 1) (m := xu m 47 (S ||| 2 ^ h) (Int32.ofNat (E (S ||| 2 ^ h) ||| 2 ^ h))) (E := fun X => if X = S ||| 2 ^ h then E X ||| 2 ^ h else E X) (by rw [xu_row (by decide)]; exact Rm) (fun X hX => by
          by_cases w : X = S ||| 2 ^ h
          · subst w
            rw [xu_s, if_pos rfl]
            exact ⟨rfl, w2⟩
          · rw [xu_o (fun z => w z.2)]
            rw [if_neg w]
            exact hE X hX) (by omega) (by omega)
        refine ⟨m', ob r77 (oF g (oF t1 ?_)), ?_, fun i a => (d3 i a).trans (xu_row a), d4⟩
        · rw [b1, if_pos (gxb eS b2), if_pos (gxb eS b2), gxn eS, v1, w1]
          unfold D3_44_9_88
          rw [(o1 (n := h) (by omega)).2.2]
          exact d1
        · show ∀ X, X < 64 → m'.1 47 X = Int32.ofNat (mpu S R (h + 1) (N - (h + 1)) (if R.testBit h = true then fun X => if X = S ||| 2 ^ h then E X ||| 2 ^ h else E X else E) X) ∧ mpu S R (h + 1) (N - (h + 1)) (if R.testBit h = true then fun X => if X = S ||| 2 ^ h then E X ||| 2 ^ h else E X else E) X < 64
          rw [if_pos c]
          exact d2
      · have c0 : R.testBit h = false := by simpa using c
        have t1 : zcmp .eq ((y >>> (Int32.ofNat h &&& 31)) &&& 1) 0 = true := (tbu h6).trans (by rw [hR h h6, c0]; rfl)
        obtain ⟨m', d1, d2, d3⟩ := ih (h := h + 1) (m := m) (E := E) Rm hE (by omega) (by omega)
        refine ⟨m', ob r77 (oF g (oT t1 ?_)), ?_, d3⟩
        · unfold D3_44_9_88
          rw [(o1 (n := h) (by omega)).2.2]
          exact d1
        · show ∀ X, X < 64 → m'.1 47 X = Int32.ofNat (mpu S R (h + 1) (N - (h + 1)) (if R.testBit h = true then fun X => if X = S ||| 2 ^ h then E X ||| 2 ^ h else E X else E) X) ∧ mpu S R (h + 1) (N - (h + 1)) (if R.testBit h = true then fun X => if X = S ||| 2 ^ h then E X ||| 2 ^ h else E X else E) X < 64
          rw [if_neg c]
          exact d2
theorem c3_5_44_9 (e0 : s 0 = Int32.ofNat N) (hN : N ≤ 6) {S : Nat} (hS : S < 64) {m : xS} {E : Nat → Nat} (Rm : R32 s (m.1 10)) (hT : ∀ a, a < 6 → T a = nb6 (m.1 10 (72 + a))) (hE : ∀ X, X < 64 → m.1 47 X = Int32.ofNat (E X) ∧ E X < 64) : ∀ (f : Nat) {h r0 : Nat} {r : Int32}, (∀ d, d < 6 → tbt r d = r0.testBit d) → h ≤ N → N - h < f → ∃ y : Int32, D3_44_9_5 F f (Int32.ofNat S) r (Int32.ofNat h) m = D3_44_9_52 F F (Int32.ofNat S) y 0 m ∧ ∀ d, d < 6 → tbt y d = (mre T (E S) h (N - h) r0 &&& (63 ^^^ S)).testBit d := by
  have eN := nJ (n := N) (by omega)
  have eS := nJ (n := S) (by omega)
  have r77 := c77_9 (F := F) Rm
  rw [e0] at r77
  intro f
  induction f with
  | zero => intro h r0 r _ _ l; omega
  | succ f ih =>
    intro h r0 r hr hh l
    have eh := nJ (n := h) (by omega)
    unfold D3_44_9_5
    by_cases q : N ≤ h
    · rw [show N - h = 0 by omega]
      refine ⟨_, ob r77 (oT (zc.trans (decide_eq_true (by dsimp only; omega))) rfl), fun d hd => ?_⟩
      show _ = (r0 &&& (63 ^^^ S)).testBit d
      rw [tb_and, tb_xor, hr d hd, tb_nat hS hd, tb_m1 hd, Nat.testBit_and, tb63 hd, Bool.xor_true]
    · rw [show N - h = (N - (h + 1)) + 1 by omega]
      have g : zcmp .ge (Int32.ofNat h) (Int32.ofNat N) = false := zc.trans (decide_eq_false (by omega))
      have h6 : h < 6 := by omega
      obtain ⟨v1, v2⟩ := hE S hS
      show ∃ y : Int32, _ = _ ∧ ∀ d, d < 6 → tbt y d = (mre T (E S) (h + 1) (N - (h + 1)) (if (E S).testBit h = true then r0 ||| T h else r0) &&& (63 ^^^ S)).testBit d
      by_cases c : (E S).testBit h = true
      · have t1 : zcmp .eq ((Int32.ofNat (E S) >>> (Int32.ofNat h &&& 31)) &&& 1) 0 = false := (tbe v2 h6).trans (by rw [c]; rfl)
        have r91 := c91_9 (F := F) Rm (a := h) rfl h6
        obtain ⟨y, y1, y2⟩ := ih (h := h + 1) (r := r ||| m.1 10 (72 + h)) (r0 := r0 ||| T h) (fun d hd => by rw [tb_or, hr d hd, Nat.testBit_or, hT h h6, nb6_t hd]) (by omega) (by omega)
        rw [if_pos c]
        refine ⟨y, ob r77 (oF g ?_), y2⟩
        rw [if_pos (gxb eS hS), gxn eS, v1]
        refine oF t1 (ob r91 ?_)
        unfold D3_44_9_37
        rw [(o1 (n := h) (by omega)).2.2]
        exact y1
      · have c0 : (E S).testBit h = false := by simpa using c
        have t1 : zcmp .eq ((Int32.ofNat (E S) >>> (Int32.ofNat h &&& 31)) &&& 1) 0 = true := (tbe v2 h6).trans (by rw [c0]; rfl)
        obtain ⟨y, y1, y2⟩ := ih (h := h + 1) (r := r) (r0 := r0) hr (by omega) (by omega)
        rw [if_neg c]
        refine ⟨y, ob r77 (oF g ?_), y2⟩
        rw [if_pos (gxb eS hS), gxn eS, v1]
        refine oT t1 ?_
        unfold D3_44_9_37
        rw [(o1 (n := h) (by omega)).2.2]
        exact y1
/-- what rows most, fewest and ends hold -/
def stM_44 (m : xS) (q : (Nat → Nat) × (Nat → Int) × (Nat → Int)) : Prop := (∀ j, j < 6 → (m.1 45 j).toInt = q.2.1 j ∧ (m.1 46 j).toInt = q.2.2 j) ∧ ∀ X, X < 64 → m.1 47 X = Int32.ofNat (q.1 X) ∧ q.1 X < 64
def km_44 (m m' : xS) : Prop := (∀ i, i ≠ 45 → i ≠ 46 → i ≠ 47 → m'.1 i = m.1 i) ∧ m'.2 = m.2
theorem km_t_44 {a b c : xS} (h1 : km_44 a b) (h2 : km_44 b c) : km_44 a c := ⟨fun i x y z => (h2.1 i x y z).trans (h1.1 i x y z), h2.2.trans h1.2⟩
theorem c1_67_44_9 (hF : 100 ≤ F) (e0 : s 0 = Int32.ofNat N) (hN : N ≤ 6) {b : Nat} (hb : b < 64) {v2 v3 : Int32} : ∀ (f : Nat) {S : Nat} {m : xS} {q : (Nat → Nat) × (Nat → Int) × (Nat → Int)}, R32 s (m.1 10) → (∀ a, a < 6 → T a = nb6 (m.1 10 (72 + a))) → stM_44 m q → S ≤ 2 ^ N → 2 ^ N - S < f → ∃ m', D1_44_9_67 F f v2 v3 (Int32.ofNat b) (Int32.ofNat (2 ^ N)) (Int32.ofNat S) m = some ((), m') ∧ stM_44 m' (mms T N b S (2 ^ N - S) q) ∧ km_44 m m' := by
  have h64 : (2 : Nat) ^ N ≤ 64 := Nat.pow_le_pow_right (n := 2) (by decide) hN
  have eP := nJ (n := 2 ^ N) (by omega)
  have e64 := nJ (n := 64) (by decide)
  intro f
  induction f with
  | zero => intro S m q _ _ _ _ l; omega
  | succ f ih =>
    intro S m q Rm hT hq hS l
    have eS := nJ (n := S) (by omega)
    unfold D1_44_9_67
    by_cases z : 2 ^ N ≤ S
    · rw [show 2 ^ N - S = 0 by omega]
      exact ⟨m, oT (zc.trans (decide_eq_true (by omega))) rfl, hq, fun _ _ _ _ => rfl, rfl⟩
    · rw [show 2 ^ N - S = (2 ^ N - (S + 1)) + 1 by omega]
      have g : zcmp .ge (Int32.ofNat S) (Int32.ofNat (2 ^ N)) = false := zc.trans (decide_eq_false (by omega))
      have g2 : zcmp .ge (Int32.ofNat S) (Int32.ofNat 64) = false := zc.trans (decide_eq_false (by omega))
      have xS64 : xib (Int32.ofNat S) 64 = true := gxb eS (by omega)
      obtain ⟨v1, v2'⟩ := hq.2 S (by omega)
      have nx : ∀ {m2 : xS} {q2 : (Nat → Nat) × (Nat → Int) × (Nat → Int)}, (if q.1 S = 0 then q else (mgo T N S q.1, nmo N (q.1 S) (pc6 (S ^^^ b)) 0 q.2.1, nfe N (q.1 S) (pc6 (S ^^^ b)) 0 q.2.2)) = q2 → stM_44 m2 q2 → km_44 m m2 → ∃ m', D1_44_9_124 F (D1_44_9_67 F f) v2 v3 (Int32.ofNat b) (Int32.ofNat (2 ^ N)) (Int32.ofNat S) m2 = some ((), m') ∧ stM_44 m' (mms T N b S ((2 ^ N - (S + 1)) + 1) q) ∧ km_44 m m' := fun {m2 q2} k1 k2 k3 => by
        have r2 : m2.1 10 = m.1 10 := k3.1 10 (by decide) (by decide) (by decide)
        obtain ⟨m', d1, d2, d3⟩ := ih (S := S + 1) (m := m2) (q := q2) (by rw [r2]; exact Rm) (by rw [r2]; exact hT) k2 (by omega) (by omega)
        refine ⟨m', ?_, ?_, km_t_44 k3 d3⟩
        · unfold D1_44_9_124
          rw [(o1 (n := S) (by omega)).2.2]
          exact d1
        · show stM_44 m' (mms T N b (S + 1) (2 ^ N - (S + 1)) (if q.1 S = 0 then q else (mgo T N S q.1, nmo N (q.1 S) (pc6 (S ^^^ b)) 0 q.2.1, nfe N (q.1 S) (pc6 (S ^^^ b)) 0 q.2.2)))
          rw [k1]
          exact d2
      rw [if_pos xS64, gxn eS, v1]
      by_cases c : q.1 S = 0
      · have t1 : zcmp .eq (Int32.ofNat (q.1 S)) 0 = true := by
          rw [c]
          decide
        obtain ⟨m', d1, d2⟩ := nx (if_pos c) hq ⟨fun _ _ _ _ => rfl, rfl⟩
        exact ⟨m', oF g (oF g2 (oT t1 d1)), d2⟩
      · have t1 : zcmp .eq (Int32.ofNat (q.1 S)) 0 = false := by
          rw [zce, beq_eq_false_iff_ne]
          intro y
          have y := congrArg Int32.toInt y
          rw [nJ (by omega)] at y
          have l0 : (0 : Int32).toInt = 0 := rfl
          omega
        have r77 := c77_9 (F := F) Rm
        rw [e0] at r77
        have x1 : S ^^^ b < 64 := Nat.xor_lt_two_pow (n := 6) (by omega) hb
        have p10 : pc6 (S ^^^ b) < 10 := by
          unfold pc6
          omega
        obtain ⟨m1, y1, y2, y3, y4⟩ := c2_44 (F := F) (N := N) hN v2' p10 F (h := 0) (m := m) (mo := q.2.1) (fe := q.2.2) hq.1 (Nat.zero_le _) (by omega)
        have y1 : D2_44 F (Int32.ofNat N) (Int32.ofNat (q.1 S)) (Int32.ofNat (pc6 (S ^^^ b))) m = some ((), m1) := y1
        have e1 : ∀ X, X < 64 → m1.1 47 X = Int32.ofNat (q.1 X) ∧ q.1 X < 64 := by rw [y3 47 (by decide) (by decide)]; exact hq.2
        have r1 : m1.1 10 = m.1 10 := y3 10 (by decide) (by decide)
        obtain ⟨y, w5, w7⟩ := c3_5_44_9 (F := F) (s := s) (T := T) e0 hN (S := S) (by omega) (m := m1) (E := q.1) (by rw [r1]; exact Rm) (by rw [r1]; exact hT) e1 F (h := 0) (r0 := 0) (r := 0) (fun d hd => by rw [Nat.zero_testBit]; exact (tb_nat (S := 0) (by decide) hd).trans (Nat.zero_testBit d)) (Nat.zero_le _) (by omega)
        have w5 : D3_44_9 F (Int32.ofNat S) m1 = _ := w5
        rw [Nat.sub_zero] at w7
        obtain ⟨m2, u1, u2, u3, u4⟩ := c3_52_44_9 (F := F) (s := s) e0 hN (S := S) (by omega) w7 F (h := 0) (m := m1) (E := q.1) (by rw [r1]; exact Rm) e1 (Nat.zero_le _) (by omega)
        rw [Nat.sub_zero] at u2
        have w6 : D3_44_9 F (Int32.ofNat S) m1 = some ((), m2) := w5.trans u1
        obtain ⟨m', d1, d2⟩ := nx (m2 := m2) (if_neg c) ⟨fun j hj => by rw [u3 45 (by decide), u3 46 (by decide)]; exact y2 j hj, u2⟩ ⟨fun i a1 a2 a3 => (u3 i a3).trans (y3 i a1 a2), u4.trans y4⟩
        refine ⟨m', oF g (oF g2 (oF t1 (ob r77 ?_))), d2⟩
        rw [if_pos xS64, xor64 (by omega) hb]
        refine ob (bc64 x1) ?_
        dsimp only
        rw [v1]
        exact ob y1 (ob w6 d1)
/-- measure -/
theorem c1_44_9 (hF : 100 ≤ F) {m : xS} (e0 : s 0 = Int32.ofNat N) (hN : N ≤ 6) (Rm : R32 s (m.1 10)) (hT : ∀ a, a < 6 → T a = nb6 (m.1 10 (72 + a))) {t a o : Nat} {v2 : Int32} (h2 : v2 = Int32.ofNat t) (ht : t < 6) (ea : s (10 + 6 * t + 3) = Int32.ofNat a) (eo : s (10 + 6 * t + 0) = Int32.ofNat o) (ha : a < N) (ho : o < N) : ∃ m', D1_44_9 F v2 m = some ((), m') ∧ stM_44 m' (mms T N (2 ^ a ||| 2 ^ o) (2 ^ a ||| 2 ^ o) (2 ^ N - (2 ^ a ||| 2 ^ o)) (mst0 a (2 ^ a ||| 2 ^ o))) ∧ km_44 m m' := by
  have h64 : (2 : Nat) ^ N ≤ 64 := Nat.pow_le_pow_right (n := 2) (by decide) hN
  obtain ⟨pa, pa'⟩ := b2p (h := a) (by omega)
  obtain ⟨po, po'⟩ := bor (b := 2 ^ a) (h := o) pa' (by omega)
  have bN : 2 ^ a ||| 2 ^ o < 2 ^ N := Nat.or_lt_two_pow (Nat.pow_lt_pow_right (by decide) ha) (Nat.pow_lt_pow_right (by decide) ho)
  obtain ⟨m1, x1, x2, -, x3, x4⟩ := fl_45 (F := F) (v := -1) F (j := 0) (m := m) (by decide) (by omega)
  have x1 : D291_45 F (-1) m = some ((), m1) := x1
  obtain ⟨m2, y1, y2, -, y3, y4⟩ := fl_46 (F := F) (v := -1) F (j := 0) (m := m1) (by decide) (by omega)
  have y1 : D291_46 F (-1) m1 = some ((), m2) := y1
  obtain ⟨m3, z1, z2, -, z3, z4⟩ := fl_47 (F := F) (v := 0) F (j := 0) (m := m2) (by decide) (by omega)
  have z1 : D291_47 F 0 m2 = some ((), m3) := z1
  have rr : m3.1 10 = m.1 10 := (z3 10 (by decide)).trans ((y3 10 (by decide)).trans (x3 10 (by decide)))
  have R3 : R32 s (m3.1 10) := by rw [rr]; exact Rm
  have r3 := c87_9 (F := F) R3 (w := 3) h2 rfl ht (by decide)
  have r0 := c87_9 (F := F) R3 (w := 0) h2 rfl ht (by decide)
  rw [ea] at r3
  rw [eo] at r0
  have eb := nJ (n := 2 ^ a ||| 2 ^ o) (by omega)
  have R4 : R32 s ((xu m3 47 (2 ^ a ||| 2 ^ o) (Int32.ofNat (2 ^ a))).1 10) := by rw [xu_row (by decide)]; exact R3
  have r77 := c77_9 (F := F) R4
  rw [e0] at r77
  have st : stM_44 (xu m3 47 (2 ^ a ||| 2 ^ o) (Int32.ofNat (2 ^ a))) (mst0 a (2 ^ a ||| 2 ^ o)) := by
    refine ⟨fun j hj => ⟨?_, ?_⟩, fun X hX => ?_⟩
    · exact congrArg Int32.toInt ((congrFun (xu_row (by decide)) j).trans ((congrFun (z3 45 (by decide)) j).trans ((congrFun (y3 45 (by decide)) j).trans (x2 j (Nat.zero_le _) hj))))
    · exact congrArg Int32.toInt ((congrFun (xu_row (by decide)) j).trans ((congrFun (z3 46 (by decide)) j).trans (y2 j (Nat.zero_le _) hj)))
    · show _ = Int32.ofNat (if X = 2 ^ a ||| 2 ^ o then 2 ^ a else 0) ∧ (if X = 2 ^ a ||| 2 ^ o then 2 ^ a else 0) < 64
      by_cases y : X = 2 ^ a ||| 2 ^ o
      · rw [if_pos y, y, xu_s]
        exact ⟨rfl, pa'⟩
      · rw [if_neg y, xu_o (fun z => y z.2), z2 X (Nat.zero_le _) hX]
        exact ⟨rfl, by decide⟩
  obtain ⟨m', d1, d2, d3⟩ := c1_67_44_9 (F := F) (s := s) (T := T) hF e0 hN (b := 2 ^ a ||| 2 ^ o) (by omega) (v2 := v2) (v3 := Int32.ofNat a) F (S := 2 ^ a ||| 2 ^ o) (m := xu m3 47 (2 ^ a ||| 2 ^ o) (Int32.ofNat (2 ^ a))) (q := mst0 a (2 ^ a ||| 2 ^ o)) R4 (by rw [xu_row (by decide), rr]; exact hT) st (by omega) (by omega)
  refine ⟨m', ?_, d2, km_t_44 ⟨fun i a1 a2 a3 => ?_, ?_⟩ d3⟩
  · unfold D1_44_9
    refine ob x1 (ob y1 (ob z1 (ob r3 (ob r0 ?_))))
    dsimp only
    rw [pa, po, if_pos (gxb eb (by omega)), gxn eb]
    refine ob r77 ?_
    dsimp only
    rw [p2N hN]
    exact d1
  · rw [xu_row a3, z3 i a3, y3 i a2, x3 i a1]
  · exact z4.trans (y4.trans x4)
/-- measure, as the codes say -/
theorem meas_44_9 {s : Nat → Int32} {F : Nat} {m : xS} (hF : 100 ≤ F) (n6 : (s 0).toInt ≤ 6) (Rm : R32 s (m.1 10)) {t : Nat} (t6 : t < 6) (h0 : 0 ≤ (s (10 + 6 * t)).toInt ∧ (s (10 + 6 * t)).toInt < (s 0).toInt) (h3 : 0 ≤ (s (10 + 6 * t + 3)).toInt ∧ (s (10 + 6 * t + 3)).toInt < (s 0).toInt) : ∃ m', D1_44_9 F (Int32.ofNat t) m = some ((), m') ∧ (∀ h : Nat, (h : Int) < (s 0).toInt → m'.1 45 h = cvl s t h true ∧ m'.1 46 h = cvl s t h false) ∧ km_44 m m' := by
  obtain ⟨N, eN⟩ : ∃ N : Nat, (s 0).toInt = (N : Int) := ⟨(s 0).toInt.toNat, by omega⟩
  obtain ⟨a, ea⟩ : ∃ a : Nat, (s (10 + 6 * t + 3)).toInt = (a : Int) := ⟨(s (10 + 6 * t + 3)).toInt.toNat, by omega⟩
  obtain ⟨o, eo⟩ : ∃ o : Nat, (s (10 + 6 * t)).toInt = (o : Int) := ⟨(s (10 + 6 * t)).toInt.toNat, by omega⟩
  have ha : a < N := by omega
  have ho : o < N := by omega
  have hN : N ≤ 6 := by omega
  have bN : 2 ^ a ||| 2 ^ o < 2 ^ N := Nat.or_lt_two_pow (Nat.pow_lt_pow_right (by decide) ha) (Nat.pow_lt_pow_right (by decide) ho)
  obtain ⟨m', d1, d2, d3⟩ := c1_44_9 (F := F) (s := s) (N := N) (T := fun x => nb6 (m.1 10 (72 + x))) hF (m := m) (i32n eN) hN Rm (fun _ _ => rfl) (t := t) rfl t6 (i32n ea) (i32n eo) ha ho
  have I := mms_I (s := s) (T := fun x => nb6 (m.1 10 (72 + x))) ha hN bN (fun x hx d hd => (nb6_t hd).trans (R_tr Rm hx hd)) (2 ^ N - (2 ^ a ||| 2 ^ o)) (mst0_I ha hN bN)
  rw [show (2 ^ a ||| 2 ^ o) + (2 ^ N - (2 ^ a ||| 2 ^ o)) = 2 ^ N by omega] at I
  refine ⟨m', d1, fun h hh => ?_, d3⟩
  obtain ⟨v1, v2⟩ := cvl_v (s := s) (t := t) (h := h) (by omega) hN (i32n ea) (i32n eo) ha ho (by omega) I
  obtain ⟨w1, w2⟩ := d2.1 h (by omega)
  exact ⟨Int32.toInt_inj.mp (w1.trans v1), Int32.toInt_inj.mp (w2.trans v2)⟩
end PMS44_9
section PMS44_11t
variable {s : Nat → Int32} {T : Nat → Nat} {N : Nat} {F : Nat}
theorem c3_52_44_11t (e0 : s 0 = Int32.ofNat N) (hN : N ≤ 6) {S R : Nat} {y : Int32} (hS : S < 64) (hR : ∀ d, d < 6 → tbt y d = R.testBit d) : ∀ (f : Nat) {h : Nat} {m : xS} {E : Nat → Nat}, R32 s (m.1 12) → (∀ X, X < 64 → m.1 47 X = Int32.ofNat (E X) ∧ E X < 64) → h ≤ N → N - h < f → ∃ m', D3_44_11t_52 F f (Int32.ofNat S) y (Int32.ofNat h) m = some ((), m') ∧ (∀ X, X < 64 → m'.1 47 X = Int32.ofNat (mpu S R h (N - h) E X) ∧ mpu S R h (N - h) E X < 64) ∧ (∀ i, i ≠ 47 → m'.1 i = m.1 i) ∧ m'.2 = m.2 := by
  have eN := nJ (n := N) (by omega)
  intro f
  induction f with
  | zero => intro h m E _ _ _ l; omega
  | succ f ih =>
    intro h m E Rm hE hh l
    have eh := nJ (n := h) (by omega)
    have r77 := c77_11t (F := F) Rm
    rw [e0] at r77
    unfold D3_44_11t_52
    by_cases q : N ≤ h
    · rw [show N - h = 0 by omega]
      exact ⟨m, ob r77 (oT (zc.trans (decide_eq_true (by dsimp only; omega))) rfl), hE, fun _ _ => rfl, rfl⟩
    · rw [show N - h = (N - (h + 1)) + 1 by omega]
      have g : zcmp .ge (Int32.ofNat h) (Int32.ofNat N) = false := zc.trans (decide_eq_false (by omega))
      have h6 : h < 6 := by omega
      by_cases c : R.testBit h = true
      · have t1 : zcmp .eq ((y >>> (Int32.ofNat h &&& 31)) &&& 1) 0 = false := (tbu h6).trans (by rw [hR h h6, c]; rfl)
        obtain ⟨b1, b2⟩ := bor hS h6
        obtain ⟨v1, v2⟩ := hE (S ||| 2 ^ h) b2
        obtain ⟨w1, w2⟩ := bor v2 h6
        have eS := nJ (n := S ||| 2 ^ h) (by omega)
        obtain ⟨m', d1, d2, d3, d4⟩ := ih (h := h + 1) (m := xu m 47 (S ||| 2 ^ h) (Int32.ofNat (E (S ||| 2 ^ h) ||| 2 ^ h))) (E := fun X => if X = S ||| 2 ^ h then E X ||| 2 ^ h else E X) (by rw [xu_row (by decide)]; exact Rm) (fun X hX => by
          by_cases w : X = S ||| 2 ^ h
          · subst w
            rw [xu_s, if_pos rfl]
            exact ⟨rfl, w2⟩
          · rw [xu_o (fun z => w z.2)]
            rw [if_neg w]
            exact hE X hX) (by omega) (by omega)
        refine ⟨m', ob r77 (oF g (oF t1 ?_)), ?_, fun i a => (d3 i a).trans (xu_row a), d4⟩
        · rw [b1, if_pos (gxb eS b2), if_pos (gxb eS b2), gxn eS, v1, w1]
          unfold D3_44_11t_88
          rw [(o1 (n := h) (by omega)).2.2]
          exact d1
        · show ∀ X, X < 64 → m'.1 47 X = Int32.ofNat (mpu S R (h + 1) (N - (h + 1)) (if R.testBit h = true then fun X => if X = S ||| 2 ^ h then E X ||| 2 ^ h else E X else E) X) ∧ mpu S R (h + 1) (N - (h + 1)) (if R.testBit h = true then fun X => if X = S ||| 2 ^ h then E X ||| 2 ^ h else E X else E) X < 64
          rw [if_pos c]
          exact d2
      · have c0 : R.testBit h = false := by simpa using c
        have t1 : zcmp .eq ((y >>> (Int32.ofNat h &&& 31)) &&& 1) 0 = true := (tbu h6).trans (by rw [hR h h6, c0]; rfl)
        obtain ⟨m', d1, d2, d3⟩ := ih (h := h + 1) (m := m) (E := E) Rm hE (by omega) (by omega)
        refine ⟨m', ob r77 (oF g (oT t1 ?_)), ?_, d3⟩
        · unfold D3_44_11t_88
          rw [(o1 (n := h) (by omega)).2.2]
          exact d1
        · show ∀ X, X < 64 → m'.1 47 X = Int32.ofNat (mpu S R (h + 1) (N - (h + 1)) (if R.testBit h = true then fun X => if X = S ||| 2 ^ h then E X ||| 2 ^ h else E X else E) X) ∧ mpu S R (h + 1) (N - (h + 1)) (if R.testBit h = true then fun X => if X = S ||| 2 ^ h then E X ||| 2 ^ h else E X else E) X < 64
          rw [if_neg c]
          exact d2
theorem c3_5_44_11t (e0 : s 0 = Int32.ofNat N) (hN : N ≤ 6) {S : Nat} (hS : S < 64) {m : xS} {E : Nat → Nat} (Rm : R32 s (m.1 12)) (hT : ∀ a, a < 6 → T a = nb6 (m.1 12 (72 + a))) (hE : ∀ X, X < 64 → m.1 47 X = Int32.ofNat (E X) ∧ E X < 64) : ∀ (f : Nat) {h r0 : Nat} {r : Int32}, (∀ d, d < 6 → tbt r d = r0.testBit d) → h ≤ N → N - h < f → ∃ y : Int32, D3_44_11t_5 F f (Int32.ofNat S) r (Int32.ofNat h) m = D3_44_11t_52 F F (Int32.ofNat S) y 0 m ∧ ∀ d, d < 6 → tbt y d = (mre T (E S) h (N - h) r0 &&& (63 ^^^ S)).testBit d := by
  have eN := nJ (n := N) (by omega)
  have eS := nJ (n := S) (by omega)
  have r77 := c77_11t (F := F) Rm
  rw [e0] at r77
  intro f
  induction f with
  | zero => intro h r0 r _ _ l; omega
  | succ f ih =>
    intro h r0 r hr hh l
    have eh := nJ (n := h) (by omega)
    unfold D3_44_11t_5
    by_cases q : N ≤ h
    · rw [show N - h = 0 by omega]
      refine ⟨_, ob r77 (oT (zc.trans (decide_eq_true (by dsimp only; omega))) rfl), fun d hd => ?_⟩
      show _ = (r0 &&& (63 ^^^ S)).testBit d
      rw [tb_and, tb_xor, hr d hd, tb_nat hS hd, tb_m1 hd, Nat.testBit_and, tb63 hd, Bool.xor_true]
    · rw [show N - h = (N - (h + 1)) + 1 by omega]
      have g : zcmp .ge (Int32.ofNat h) (Int32.ofNat N) = false := zc.trans (decide_eq_false (by omega))
      have h6 : h < 6 := by omega
      obtain ⟨v1, v2⟩ := hE S hS
      show ∃ y : Int32, _ = _ ∧ ∀ d, d < 6 → tbt y d = (mre T (E S) (h + 1) (N - (h + 1)) (if (E S).testBit h = true then r0 ||| T h else r0) &&& (63 ^^^ S)).testBit d
      by_cases c : (E S).testBit h = true
      · have t1 : zcmp .eq ((Int32.ofNat (E S) >>> (Int32.ofNat h &&& 31)) &&& 1) 0 = false := (tbe v2 h6).trans (by rw [c]; rfl)
        have r91 := c91_11t (F := F) Rm (a := h) rfl h6
        obtain ⟨y, y1, y2⟩ := ih (h := h + 1) (r := r ||| m.1 12 (72 + h)) (r0 := r0 ||| T h) (fun d hd => by rw [tb_or, hr d hd, Nat.testBit_or, hT h h6, nb6_t hd]) (by omega) (by omega)
        rw [if_pos c]
        refine ⟨y, ob r77 (oF g ?_), y2⟩
        rw [if_pos (gxb eS hS), gxn eS, v1]
        refine oF t1 (ob r91 ?_)
        unfold D3_44_11t_37
        rw [(o1 (n := h) (by omega)).2.2]
        exact y1
      · have c0 : (E S).testBit h = false := by simpa using c
        have t1 : zcmp .eq ((Int32.ofNat (E S) >>> (Int32.ofNat h &&& 31)) &&& 1) 0 = true := (tbe v2 h6).trans (by rw [c0]; rfl)
        obtain ⟨y, y1, y2⟩ := ih (h := h + 1) (r := r) (r0 := r0) hr (by omega) (by omega)
        rw [if_neg c]
        refine ⟨y, ob r77 (oF g ?_), y2⟩
        rw [if_pos (gxb eS hS), gxn eS, v1]
        refine oT t1 ?_
        unfold D3_44_11t_37
        rw [(o1 (n := h) (by omega)).2.2]
        exact y1
theorem c1_67_44_11t (hF : 100 ≤ F) (e0 : s 0 = Int32.ofNat N) (hN : N ≤ 6) {b : Nat} (hb : b < 64) {v2 v3 : Int32} : ∀ (f : Nat) {S : Nat} {m : xS} {q : (Nat → Nat) × (Nat → Int) × (Nat → Int)}, R32 s (m.1 12) → (∀ a, a < 6 → T a = nb6 (m.1 12 (72 + a))) → stM_44 m q → S ≤ 2 ^ N → 2 ^ N - S < f → ∃ m', D1_44_11t_67 F f v2 v3 (Int32.ofNat b) (Int32.ofNat (2 ^ N)) (Int32.ofNat S) m = some ((), m') ∧ stM_44 m' (mms T N b S (2 ^ N - S) q) ∧ km_44 m m' := by
  have h64 : (2 : Nat) ^ N ≤ 64 := Nat.pow_le_pow_right (n := 2) (by decide) hN
  have eP := nJ (n := 2 ^ N) (by omega)
  have e64 := nJ (n := 64) (by decide)
  intro f
  induction f with
  | zero => intro S m q _ _ _ _ l; omega
  | succ f ih =>
    intro S m q Rm hT hq hS l
    have eS := nJ (n := S) (by omega)
    unfold D1_44_11t_67
    by_cases z : 2 ^ N ≤ S
    · rw [show 2 ^ N - S = 0 by omega]
      exact ⟨m, oT (zc.trans (decide_eq_true (by omega))) rfl, hq, fun _ _ _ _ => rfl, rfl⟩
    · rw [show 2 ^ N - S = (2 ^ N - (S + 1)) + 1 by omega]
      have g : zcmp .ge (Int32.ofNat S) (Int32.ofNat (2 ^ N)) = false := zc.trans (decide_eq_false (by omega))
      have g2 : zcmp .ge (Int32.ofNat S) (Int32.ofNat 64) = false := zc.trans (decide_eq_false (by omega))
      have xS64 : xib (Int32.ofNat S) 64 = true := gxb eS (by omega)
      obtain ⟨v1, v2'⟩ := hq.2 S (by omega)
      have nx : ∀ {m2 : xS} {q2 : (Nat → Nat) × (Nat → Int) × (Nat → Int)}, (if q.1 S = 0 then q else (mgo T N S q.1, nmo N (q.1 S) (pc6 (S ^^^ b)) 0 q.2.1, nfe N (q.1 S) (pc6 (S ^^^ b)) 0 q.2.2)) = q2 → stM_44 m2 q2 → km_44 m m2 → ∃ m', D1_44_11t_124 F (D1_44_11t_67 F f) v2 v3 (Int32.ofNat b) (Int32.ofNat (2 ^ N)) (Int32.ofNat S) m2 = some ((), m') ∧ stM_44 m' (mms T N b S ((2 ^ N - (S + 1)) + 1) q) ∧ km_44 m m' := fun {m2 q2} k1 k2 k3 => by
        have r2 : m2.1 12 = m.1 12 := k3.1 12 (by decide) (by decide) (by decide)
        obtain ⟨m', d1, d2, d3⟩ := ih (S := S + 1) (m := m2) (q := q2) (by rw [r2]; exact Rm) (by rw [r2]; exact hT) k2 (by omega) (by omega)
        refine ⟨m', ?_, ?_, km_t_44 k3 d3⟩
        · unfold D1_44_11t_124
          rw [(o1 (n := S) (by omega)).2.2]
          exact d1
        · show stM_44 m' (mms T N b (S + 1) (2 ^ N - (S + 1)) (if q.1 S = 0 then q else (mgo T N S q.1, nmo N (q.1 S) (pc6 (S ^^^ b)) 0 q.2.1, nfe N (q.1 S) (pc6 (S ^^^ b)) 0 q.2.2)))
          rw [k1]
          exact d2
      rw [if_pos xS64, gxn eS, v1]
      by_cases c : q.1 S = 0
      · have t1 : zcmp .eq (Int32.ofNat (q.1 S)) 0 = true := by
          rw [c]
          decide
        obtain ⟨m', d1, d2⟩ := nx (if_pos c) hq ⟨fun _ _ _ _ => rfl, rfl⟩
        exact ⟨m', oF g (oF g2 (oT t1 d1)), d2⟩
      · have t1 : zcmp .eq (Int32.ofNat (q.1 S)) 0 = false := by
          rw [zce, beq_eq_false_iff_ne]
          intro y
          have y := congrArg Int32.toInt y
          rw [nJ (by omega)] at y
          have l0 : (0 : Int32).toInt = 0 := rfl
          omega
        have r77 := c77_11t (F := F) Rm
        rw [e0] at r77
        have x1 : S ^^^ b < 64 := Nat.xor_lt_two_pow (n := 6) (by omega) hb
        have p10 : pc6 (S ^^^ b) < 10 := by
          unfold pc6
          omega
        obtain ⟨m1, y1, y2, y3, y4⟩ := c2_44 (F := F) (N := N) hN v2' p10 F (h := 0) (m := m) (mo := q.2.1) (fe := q.2.2) hq.1 (Nat.zero_le _) (by omega)
        have y1 : D2_44 F (Int32.ofNat N) (Int32.ofNat (q.1 S)) (Int32.ofNat (pc6 (S ^^^ b))) m = some ((), m1) := y1
        have e1 : ∀ X, X < 64 → m1.1 47 X = Int32.ofNat (q.1 X) ∧ q.1 X < 64 := by rw [y3 47 (by decide) (by decide)]; exact hq.2
        have r1 : m1.1 12 = m.1 12 := y3 12 (by decide) (by decide)
        obtain ⟨y, w5, w7⟩ := c3_5_44_11t (F := F) (s := s) (T := T) e0 hN (S := S) (by omega) (m := m1) (E := q.1) (by rw [r1]; exact Rm) (by rw [r1]; exact hT) e1 F (h := 0) (r0 := 0) (r := 0) (fun d hd => by rw [Nat.zero_testBit]; exact (tb_nat (S := 0) (by decide) hd).trans (Nat.zero_testBit d)) (Nat.zero_le _) (by omega)
        have w5 : D3_44_11t F (Int32.ofNat S) m1 = _ := w5
        rw [Nat.sub_zero] at w7
        obtain ⟨m2, u1, u2, u3, u4⟩ := c3_52_44_11t (F := F) (s := s) e0 hN (S := S) (by omega) w7 F (h := 0) (m := m1) (E := q.1) (by rw [r1]; exact Rm) e1 (Nat.zero_le _) (by omega)
        rw [Nat.sub_zero] at u2
        have w6 : D3_44_11t F (Int32.ofNat S) m1 = some ((), m2) := w5.trans u1
        obtain ⟨m', d1, d2⟩ := nx (m2 := m2) (if_neg c) ⟨fun j hj => by rw [u3 45 (by decide), u3 46 (by decide)]; exact y2 j hj, u2⟩ ⟨fun i a1 a2 a3 => (u3 i a3).trans (y3 i a1 a2), u4.trans y4⟩
        refine ⟨m', oF g (oF g2 (oF t1 (ob r77 ?_))), d2⟩
        rw [if_pos xS64, xor64 (by omega) hb]
        refine ob (bc64 x1) ?_
        dsimp only
        rw [v1]
        exact ob y1 (ob w6 d1)
/-- measure -/
theorem c1_44_11t (hF : 100 ≤ F) {m : xS} (e0 : s 0 = Int32.ofNat N) (hN : N ≤ 6) (Rm : R32 s (m.1 12)) (hT : ∀ a, a < 6 → T a = nb6 (m.1 12 (72 + a))) {t a o : Nat} {v2 : Int32} (h2 : v2 = Int32.ofNat t) (ht : t < 6) (ea : s (10 + 6 * t + 3) = Int32.ofNat a) (eo : s (10 + 6 * t + 0) = Int32.ofNat o) (ha : a < N) (ho : o < N) : ∃ m', D1_44_11t F v2 m = some ((), m') ∧ stM_44 m' (mms T N (2 ^ a ||| 2 ^ o) (2 ^ a ||| 2 ^ o) (2 ^ N - (2 ^ a ||| 2 ^ o)) (mst0 a (2 ^ a ||| 2 ^ o))) ∧ km_44 m m' := by
  have h64 : (2 : Nat) ^ N ≤ 64 := Nat.pow_le_pow_right (n := 2) (by decide) hN
  obtain ⟨pa, pa'⟩ := b2p (h := a) (by omega)
  obtain ⟨po, po'⟩ := bor (b := 2 ^ a) (h := o) pa' (by omega)
  have bN : 2 ^ a ||| 2 ^ o < 2 ^ N := Nat.or_lt_two_pow (Nat.pow_lt_pow_right (by decide) ha) (Nat.pow_lt_pow_right (by decide) ho)
  obtain ⟨m1, x1, x2, -, x3, x4⟩ := fl_45 (F := F) (v := -1) F (j := 0) (m := m) (by decide) (by omega)
  have x1 : D291_45 F (-1) m = some ((), m1) := x1
  obtain ⟨m2, y1, y2, -, y3, y4⟩ := fl_46 (F := F) (v := -1) F (j := 0) (m := m1) (by decide) (by omega)
  have y1 : D291_46 F (-1) m1 = some ((), m2) := y1
  obtain ⟨m3, z1, z2, -, z3, z4⟩ := fl_47 (F := F) (v := 0) F (j := 0) (m := m2) (by decide) (by omega)
  have z1 : D291_47 F 0 m2 = some ((), m3) := z1
  have rr : m3.1 12 = m.1 12 := (z3 12 (by decide)).trans ((y3 12 (by decide)).trans (x3 12 (by decide)))
  have R3 : R32 s (m3.1 12) := by rw [rr]; exact Rm
  have r3 := c87_11t (F := F) R3 (w := 3) h2 rfl ht (by decide)
  have r0 := c87_11t (F := F) R3 (w := 0) h2 rfl ht (by decide)
  rw [ea] at r3
  rw [eo] at r0
  have eb := nJ (n := 2 ^ a ||| 2 ^ o) (by omega)
  have R4 : R32 s ((xu m3 47 (2 ^ a ||| 2 ^ o) (Int32.ofNat (2 ^ a))).1 12) := by rw [xu_row (by decide)]; exact R3
  have r77 := c77_11t (F := F) R4
  rw [e0] at r77
  have st : stM_44 (xu m3 47 (2 ^ a ||| 2 ^ o) (Int32.ofNat (2 ^ a))) (mst0 a (2 ^ a ||| 2 ^ o)) := by
    refine ⟨fun j hj => ⟨?_, ?_⟩, fun X hX => ?_⟩
    · exact congrArg Int32.toInt ((congrFun (xu_row (by decide)) j).trans ((congrFun (z3 45 (by decide)) j).trans ((congrFun (y3 45 (by decide)) j).trans (x2 j (Nat.zero_le _) hj))))
    · exact congrArg Int32.toInt ((congrFun (xu_row (by decide)) j).trans ((congrFun (z3 46 (by decide)) j).trans (y2 j (Nat.zero_le _) hj)))
    · show _ = Int32.ofNat (if X = 2 ^ a ||| 2 ^ o then 2 ^ a else 0) ∧ (if X = 2 ^ a ||| 2 ^ o then 2 ^ a else 0) < 64
      by_cases y : X = 2 ^ a ||| 2 ^ o
      · rw [if_pos y, y, xu_s]
        exact ⟨rfl, pa'⟩
      · rw [if_neg y, xu_o (fun z => y z.2), z2 X (Nat.zero_le _) hX]
        exact ⟨rfl, by decide⟩
  obtain ⟨m', d1, d2, d3⟩ := c1_67_44_11t (F := F) (s := s) (T := T) hF e0 hN (b := 2 ^ a ||| 2 ^ o) (by omega) (v2 := v2) (v3 := Int32.ofNat a) F (S := 2 ^ a ||| 2 ^ o) (m := xu m3 47 (2 ^ a ||| 2 ^ o) (Int32.ofNat (2 ^ a))) (q := mst0 a (2 ^ a ||| 2 ^ o)) R4 (by rw [xu_row (by decide), rr]; exact hT) st (by omega) (by omega)
  refine ⟨m', ?_, d2, km_t_44 ⟨fun i a1 a2 a3 => ?_, ?_⟩ d3⟩
  · unfold D1_44_11t
    refine ob x1 (ob y1 (ob z1 (ob r3 (ob r0 ?_))))
    dsimp only
    rw [pa, po, if_pos (gxb eb (by omega)), gxn eb]
    refine ob r77 ?_
    dsimp only
    rw [p2N hN]
    exact d1
  · rw [xu_row a3, z3 i a3, y3 i a2, x3 i a1]
  · exact z4.trans (y4.trans x4)
/-- measure, as the codes say -/
theorem meas_44_11t {s : Nat → Int32} {F : Nat} {m : xS} (hF : 100 ≤ F) (n6 : (s 0).toInt ≤ 6) (Rm : R32 s (m.1 12)) {t : Nat} (t6 : t < 6) (h0 : 0 ≤ (s (10 + 6 * t)).toInt ∧ (s (10 + 6 * t)).toInt < (s 0).toInt) (h3 : 0 ≤ (s (10 + 6 * t + 3)).toInt ∧ (s (10 + 6 * t + 3)).toInt < (s 0).toInt) : ∃ m', D1_44_11t F (Int32.ofNat t) m = some ((), m') ∧ (∀ h : Nat, (h : Int) < (s 0).toInt → m'.1 45 h = cvl s t h true ∧ m'.1 46 h = cvl s t h false) ∧ km_44 m m' := by
  obtain ⟨N, eN⟩ : ∃ N : Nat, (s 0).toInt = (N : Int) := ⟨(s 0).toInt.toNat, by omega⟩
  obtain ⟨a, ea⟩ : ∃ a : Nat, (s (10 + 6 * t + 3)).toInt = (a : Int) := ⟨(s (10 + 6 * t + 3)).toInt.toNat, by omega⟩
  obtain ⟨o, eo⟩ : ∃ o : Nat, (s (10 + 6 * t)).toInt = (o : Int) := ⟨(s (10 + 6 * t)).toInt.toNat, by omega⟩
  have ha : a < N := by omega
  have ho : o < N := by omega
  have hN : N ≤ 6 := by omega
  have bN : 2 ^ a ||| 2 ^ o < 2 ^ N := Nat.or_lt_two_pow (Nat.pow_lt_pow_right (by decide) ha) (Nat.pow_lt_pow_right (by decide) ho)
  obtain ⟨m', d1, d2, d3⟩ := c1_44_11t (F := F) (s := s) (N := N) (T := fun x => nb6 (m.1 12 (72 + x))) hF (m := m) (i32n eN) hN Rm (fun _ _ => rfl) (t := t) rfl t6 (i32n ea) (i32n eo) ha ho
  have I := mms_I (s := s) (T := fun x => nb6 (m.1 12 (72 + x))) ha hN bN (fun x hx d hd => (nb6_t hd).trans (R_tr Rm hx hd)) (2 ^ N - (2 ^ a ||| 2 ^ o)) (mst0_I ha hN bN)
  rw [show (2 ^ a ||| 2 ^ o) + (2 ^ N - (2 ^ a ||| 2 ^ o)) = 2 ^ N by omega] at I
  refine ⟨m', d1, fun h hh => ?_, d3⟩
  obtain ⟨v1, v2⟩ := cvl_v (s := s) (t := t) (h := h) (by omega) hN (i32n ea) (i32n eo) ha ho (by omega) I
  obtain ⟨w1, w2⟩ := d2.1 h (by omega)
  exact ⟨Int32.toInt_inj.mp (w1.trans v1), Int32.toInt_inj.mp (w2.trans v2)⟩
end PMS44_11t
