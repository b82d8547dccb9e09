/-! Another object measures rows. -/
section PNL51
variable {m : xS} {F : Nat}
theorem c2_51 {N e L : Nat} (hN : N ≤ 6) (he : e < 64) (hL : L < 10) : ∀ (f : Nat) {h : Nat} {m : xS} {mo fe : Nat → Int}, (∀ j, j < 6 → (m.1 52 j).toInt = mo j ∧ (m.1 53 j).toInt = fe j) → h ≤ N → N - h < f → ∃ m', D2_51_3 F f (Int32.ofNat N) (Int32.ofNat e) (Int32.ofNat L) (Int32.ofNat h) m = some ((), m') ∧ (∀ j, j < 6 → (m'.1 52 j).toInt = nmo N e L h mo j ∧ (m'.1 53 j).toInt = nfe N e L h fe j) ∧ (∀ i, i ≠ 52 → i ≠ 53 → m'.1 i = m.1 i) ∧ m'.2 = m.2 := by
  have eN := nJ (n := N) (by omega)
  have eL := nJ (n := L) (by omega)
  intro f
  induction f with
  | zero => intro h m mo fe _ _ l; omega
  | succ f ih =>
    intro h m mo fe hm hh l
    have eh := nJ (n := h) (by omega)
    unfold D2_51_3
    by_cases q : N ≤ h
    · rw [nmo_e q, nfe_e q]
      exact ⟨m, oT (zc.trans (decide_eq_true (by omega))) rfl, hm, fun _ _ _ => rfl, rfl⟩
    · have g : zcmp .ge (Int32.ofNat h) (Int32.ofNat N) = false := zc.trans (decide_eq_false (by omega))
      have h6 : h < 6 := by omega
      have nx : ∀ {m2 : xS} {mo2 fe2 : Nat → Int}, (∀ j, j < 6 → (m2.1 52 j).toInt = mo2 j ∧ (m2.1 53 j).toInt = fe2 j) → nmo N e L (h + 1) mo2 = nmo N e L h mo → nfe N e L (h + 1) fe2 = nfe N e L h fe → (∀ i, i ≠ 52 → i ≠ 53 → m2.1 i = m.1 i) → m2.2 = m.2 → ∃ m', D2_51_66 F (D2_51_3 F f) (Int32.ofNat N) (Int32.ofNat e) (Int32.ofNat L) (Int32.ofNat h) m2 = some ((), m') ∧ (∀ j, j < 6 → (m'.1 52 j).toInt = nmo N e L h mo j ∧ (m'.1 53 j).toInt = nfe N e L h fe j) ∧ (∀ i, i ≠ 52 → i ≠ 53 → m'.1 i = m.1 i) ∧ m'.2 = m.2 := fun {m2 mo2 fe2} k1 k2 k3 k4 k5 => by
        obtain ⟨m', d1, d2, d3, d4⟩ := ih (h := h + 1) (m := m2) k1 (by omega) (by omega)
        rw [k2, k3] at d2
        refine ⟨m', ?_, d2, fun i a b => (d3 i a b).trans (k4 i a b), d4.trans k5⟩
        unfold D2_51_66
        rw [(o1 (n := h) (by omega)).2.2]
        exact d1
      by_cases c : e.testBit h = true
      · obtain ⟨a1, a2⟩ := hm h h6
        have t1 : zcmp .eq ((Int32.ofNat e >>> (Int32.ofNat h &&& 31)) &&& 1) 0 = false := (tbe he h6).trans (by rw [c]; rfl)
        have x6 : xib (Int32.ofNat h) 6 = true := gxb eh h6
        have vm : (if m.1 52 h < Int32.ofNat L then Int32.ofNat L else m.1 52 h).toInt = if mo h < (L : Int) then (L : Int) else mo h := by rw [mx32, a1, eL]
        have kA : ∀ {v : Int32} {j : Nat}, j < 6 → v.toInt = (if mo h < (L : Int) then (L : Int) else mo h) → ((xu m 52 h v).1 52 j).toInt = if j = h then (if mo h < (L : Int) then (L : Int) else mo h) else mo j := fun {v j} hj hv => by
          by_cases y : j = h
          · subst y
            rw [xu_s, if_pos rfl, hv]
          · rw [xu_o (fun z => y z.2), if_neg y]
            exact (hm j hj).1
        generalize hw : (if m.1 52 h < Int32.ofNat L then Int32.ofNat L else m.1 52 h) = v at *
        have put : D2_51_58 F (D2_51_3 F f) (Int32.ofNat N) (Int32.ofNat e) (Int32.ofNat L) (Int32.ofNat h) (xu m 52 h v) = D2_51_66 F (D2_51_3 F f) (Int32.ofNat N) (Int32.ofNat e) (Int32.ofNat L) (Int32.ofNat h) (xu (xu m 52 h v) 53 h (Int32.ofNat L)) := by
          unfold D2_51_58
          rw [if_pos x6, gxn eh]
        have kB : ∀ j, j < 6 → ((xu (xu m 52 h v) 53 h (Int32.ofNat L)).1 52 j).toInt = (if j = h then (if mo h < (L : Int) then (L : Int) else mo h) else mo j) ∧ ((xu (xu m 52 h v) 53 h (Int32.ofNat L)).1 53 j).toInt = if j = h then (L : Int) else fe j := fun j hj => by
          refine ⟨by rw [xu_o (fun z => absurd z.1 (by decide))]; exact kA hj vm, ?_⟩
          by_cases y : j = h
          · subst y
            rw [xu_s, if_pos rfl, eL]
          · rw [xu_o (fun z => y z.2), if_neg y, xu_o (fun z => absurd z.1 (by decide))]
            exact (hm j hj).2
        by_cases y : fe h = -1
        · have e1 : zcmp .eq (m.1 53 h) (-1) = true := by
            rw [zce, beq_iff_eq]
            exact Int32.toInt_inj.mp (a2.trans y)
          obtain ⟨m', d1, d⟩ := nx (m2 := xu (xu m 52 h v) 53 h (Int32.ofNat L)) (mo2 := fun j => if j = h then (if mo h < (L : Int) then (L : Int) else mo h) else mo j) (fe2 := fun j => if j = h then (if fe h = -1 ∨ (L : Int) < fe h then (L : Int) else fe h) else fe j) (fun j hj => by
            rw [if_pos (show fe h = -1 ∨ (L : Int) < fe h from Or.inl y)]
            exact kB j hj) (nmo_u (by omega) c) (nfe_u (by omega) c) (fun i b1 b2 => by rw [xu_row b2, xu_row b1]) rfl
          refine ⟨m', oF g (oF t1 (oT x6 (oT x6 (oT x6 ?_)))), d⟩
          rw [gxn eh, hw]
          exact oT e1 (put.trans d1)
        · have e1 : zcmp .eq (m.1 53 h) (-1) = false := by
            rw [zce, beq_eq_false_iff_ne]
            intro z
            have z := congrArg Int32.toInt z
            rw [a2] at z
            exact y z
          by_cases w : (L : Int) < fe h
          · have e2 : zcmp .ge (Int32.ofNat L) (m.1 53 h) = false := zc.trans (decide_eq_false (by omega))
            obtain ⟨m', d1, d⟩ := nx (m2 := xu (xu m 52 h v) 53 h (Int32.ofNat L)) (mo2 := fun j => if j = h then (if mo h < (L : Int) then (L : Int) else mo h) else mo j) (fe2 := fun j => if j = h then (if fe h = -1 ∨ (L : Int) < fe h then (L : Int) else fe h) else fe j) (fun j hj => by
              rw [if_pos (show fe h = -1 ∨ (L : Int) < fe h from Or.inr w)]
              exact kB j hj) (nmo_u (by omega) c) (nfe_u (by omega) c) (fun i b1 b2 => by rw [xu_row b2, xu_row b1]) rfl
            refine ⟨m', oF g (oF t1 (oT x6 (oT x6 (oT x6 ?_)))), d⟩
            rw [gxn eh, hw]
            exact oF e1 (oT x6 (oF e2 (put.trans d1)))
          · have e2 : zcmp .ge (Int32.ofNat L) (m.1 53 h) = true := zc.trans (decide_eq_true (by omega))
            obtain ⟨m', d1, d⟩ := nx (m2 := xu m 52 h v) (mo2 := fun j => if j = h then (if mo h < (L : Int) then (L : Int) else mo h) else mo j) (fe2 := fun j => if j = h then (if fe h = -1 ∨ (L : Int) < fe h then (L : Int) else fe h) else fe j) (fun j hj => by
              refine ⟨kA hj vm, ?_⟩
              rw [xu_o (fun z => absurd z.1 (by decide)), if_neg (show ¬ (fe h = -1 ∨ (L : Int) < fe h) from fun z => z.elim y w)]
              by_cases u : j = h
              · subst u
                rw [if_pos rfl]
                exact a2
              · rw [if_neg u]
                exact (hm j hj).2) (nmo_u (by omega) c) (nfe_u (by omega) c) (fun i b1 b2 => xu_row b1) rfl
            refine ⟨m', oF g (oF t1 (oT x6 (oT x6 (oT x6 ?_)))), d⟩
            rw [gxn eh, hw]
            exact oF e1 (oT x6 (oT e2 d1))
      · have c : e.testBit h = false := by simpa using c
        have t1 : zcmp .eq ((Int32.ofNat e >>> (Int32.ofNat h &&& 31)) &&& 1) 0 = true := (tbe he h6).trans (by rw [c]; rfl)
        obtain ⟨m', d1, d⟩ := nx hm (nmo_s c) (nfe_s c) (fun _ _ _ => rfl) rfl
        exact ⟨m', oF g (oT t1 d1), d⟩
theorem fl_52 {v : Int32} : ∀ (f : Nat) {j : Nat} {m : xS}, j ≤ 6 → 6 - j < f → ∃ m', D291_52_5 F f v (Int32.ofNat j) (Int32.ofNat 6) m = some ((), m') ∧ (∀ i, j ≤ i → i < 6 → m'.1 52 i = v) ∧ (∀ i, i < j → m'.1 52 i = m.1 52 i) ∧ (∀ i, i ≠ 52 → m'.1 i = m.1 i) ∧ m'.2 = m.2 := by
  intro f
  induction f with
  | zero => intro j m _ l; omega
  | succ f ih =>
    intro j m hj l
    have ej := nJ (n := j) (by omega)
    have eK := nJ (n := 6) (by decide)
    unfold D291_52_5
    by_cases q : 6 ≤ j
    · exact ⟨m, oT (zc.trans (decide_eq_true (by omega))) rfl, fun i a b => by omega, fun _ _ => rfl, fun _ _ => rfl, rfl⟩
    · obtain ⟨m', d1, d2, d3, d4, d5⟩ := ih (j := j + 1) (m := xu m 52 j v) (by omega) (by omega)
      refine ⟨m', oF (zc.trans (decide_eq_false (by omega))) (oT (gxb ej (by omega)) ?_), fun i a b => ?_, fun i a => ?_, fun i a => (d4 i a).trans (xu_row a), d5⟩
      · rw [gxn ej, (o1 (n := j) (by omega)).2.2]
        exact d1
      · by_cases y : i = j
        · subst y
          rw [d3 i (by omega), xu_s]
        · exact d2 i (by omega) b
      · rw [d3 i (by omega), xu_o (fun z => by omega)]
theorem fl_53 {v : Int32} : ∀ (f : Nat) {j : Nat} {m : xS}, j ≤ 6 → 6 - j < f → ∃ m', D291_53_5 F f v (Int32.ofNat j) (Int32.ofNat 6) m = some ((), m') ∧ (∀ i, j ≤ i → i < 6 → m'.1 53 i = v) ∧ (∀ i, i < j → m'.1 53 i = m.1 53 i) ∧ (∀ i, i ≠ 53 → m'.1 i = m.1 i) ∧ m'.2 = m.2 := by
  intro f
  induction f with
  | zero => intro j m _ l; omega
  | succ f ih =>
    intro j m hj l
    have ej := nJ (n := j) (by omega)
    have eK := nJ (n := 6) (by decide)
    unfold D291_53_5
    by_cases q : 6 ≤ j
    · exact ⟨m, oT (zc.trans (decide_eq_true (by omega))) rfl, fun i a b => by omega, fun _ _ => rfl, fun _ _ => rfl, rfl⟩
    · obtain ⟨m', d1, d2, d3, d4, d5⟩ := ih (j := j + 1) (m := xu m 53 j v) (by omega) (by omega)
      refine ⟨m', oF (zc.trans (decide_eq_false (by omega))) (oT (gxb ej (by omega)) ?_), fun i a b => ?_, fun i a => ?_, fun i a => (d4 i a).trans (xu_row a), d5⟩
      · rw [gxn ej, (o1 (n := j) (by omega)).2.2]
        exact d1
      · by_cases y : i = j
        · subst y
          rw [d3 i (by omega), xu_s]
        · exact d2 i (by omega) b
      · rw [d3 i (by omega), xu_o (fun z => by omega)]
theorem fl_54 {v : Int32} : ∀ (f : Nat) {j : Nat} {m : xS}, j ≤ 64 → 64 - j < f → ∃ m', D291_54_5 F f v (Int32.ofNat j) (Int32.ofNat 64) m = some ((), m') ∧ (∀ i, j ≤ i → i < 64 → m'.1 54 i = v) ∧ (∀ i, i < j → m'.1 54 i = m.1 54 i) ∧ (∀ i, i ≠ 54 → m'.1 i = m.1 i) ∧ m'.2 = m.2 := by
  intro f
  induction f with
  | zero => intro j m _ l; omega
  | succ f ih =>
    intro j m hj l
    have ej := nJ (n := j) (by omega)
    have eK := nJ (n := 64) (by decide)
    unfold D291_54_5
    by_cases q : 64 ≤ j
    · exact ⟨m, oT (zc.trans (decide_eq_true (by omega))) rfl, fun i a b => by omega, fun _ _ => rfl, fun _ _ => rfl, rfl⟩
    · obtain ⟨m', d1, d2, d3, d4, d5⟩ := ih (j := j + 1) (m := xu m 54 j v) (by omega) (by omega)
      refine ⟨m', oF (zc.trans (decide_eq_false (by omega))) (oT (gxb ej (by omega)) ?_), fun i a b => ?_, fun i a => ?_, fun i a => (d4 i a).trans (xu_row a), d5⟩
      · rw [gxn ej, (o1 (n := j) (by omega)).2.2]
        exact d1
      · by_cases y : i = j
        · subst y
          rw [d3 i (by omega), xu_s]
        · exact d2 i (by omega) b
      · rw [d3 i (by omega), xu_o (fun z => by omega)]
end PNL51
section PMS51_9
variable {s : Nat → Int32} {T : Nat → Nat} {N : Nat} {F : Nat}
theorem c3_52_51_9 (e0 : s 0 = Int32.ofNat N) (hN : N ≤ 6) {S R : Nat} {y : Int32} (hS : S < 64) (hR : ∀ d, d < 6 → tbt y d = R.testBit d) : ∀ (f : Nat) {h : Nat} {m : xS} {E : Nat → Nat}, R32 s (m.1 10) → (∀ X, X < 64 → m.1 54 X = Int32.ofNat (E X) ∧ E X < 64) → h ≤ N → N - h < f → ∃ m', D3_51_9_52 F f (Int32.ofNat S) y (Int32.ofNat h) m = some ((), m') ∧ (∀ X, X < 64 → m'.1 54 X = Int32.ofNat (mpu S R h (N - h) E X) ∧ mpu S R h (N - h) E X < 64) ∧ (∀ i, i ≠ 54 → m'.1 i = m.1 i) ∧ m'.2 = m.2 := by
  have eN := nJ (n := N) (by omega)
  intro f
  induction f with
  | zero => intro h m E _ _ _ l; omega
  | succ f ih =>
    intro h m E Rm hE hh l
    have eh := nJ (n := h) (by omega)
    have r77 := c77_9 (F := F) Rm
    rw [e0] at r77
    unfold D3_51_9_52
    by_cases q : N ≤ h
    · rw [show N - h = 0 by omega]
      exact ⟨m, ob r77 (oT (zc.trans (decide_eq_true (by dsimp only; omega))) rfl), hE, fun _ _ => rfl, rfl⟩
    · rw [show N - h = (N - (h + 1)) + 1 by omega]
      have g : zcmp .ge (Int32.ofNat h) (Int32.ofNat N) = false := zc.trans (decide_eq_false (by omega))
      have h6 : h < 6 := by omega
      by_cases c : R.testBit h = true
      · have t1 : zcmp .eq ((y >>> (Int32.ofNat h &&& 31)) &&& 1) 0 = false := (tbu h6).trans (by rw [hR h h6, c]; rfl)
        obtain ⟨b1, b2⟩ := bor hS h6
        obtain ⟨v1, v2⟩ := hE (S ||| 2 ^ h) b2
        obtain ⟨w1, w2⟩ := bor v2 h6
        have eS := nJ (n := S ||| 2 ^ h) (by omega)
        obtain ⟨m', d1, d2, d3, d4⟩ := ih (h := h + 1) (m := xu m 54 (S ||| 2 ^ h) (Int32.ofNat (E (S ||| 2 ^ h) ||| 2 ^ h))) (E := fun X => if X = S ||| 2 ^ h then E X ||| 2 ^ h else E X) (by rw [xu_row (by decide)]; exact Rm) (fun X hX => by
          by_cases w : X = S ||| 2 ^ h
          · subst w
            rw [xu_s, if_pos rfl]
            exact ⟨rfl, w2⟩
          · rw [xu_o (fun z => w z.2)]
            rw [if_neg w]
            exact hE X hX) (by omega) (by omega)
        refine ⟨m', ob r77 (oF g (oF t1 ?_)), ?_, fun i a => (d3 i a).trans (xu_row a), d4⟩
        · rw [b1, if_pos (gxb eS b2), if_pos (gxb eS b2), gxn eS, v1, w1]
          unfold D3_51_9_88
          rw [(o1 (n := h) (by omega)).2.2]
          exact d1
        · show ∀ X, X < 64 → m'.1 54 X = Int32.ofNat (mpu S R (h + 1) (N - (h + 1)) (if R.testBit h = true then fun X => if X = S ||| 2 ^ h then E X ||| 2 ^ h else E X else E) X) ∧ mpu S R (h + 1) (N - (h + 1)) (if R.testBit h = true then fun X => if X = S ||| 2 ^ h then E X ||| 2 ^ h else E X else E) X < 64
          rw [if_pos c]
          exact d2
      · have c0 : R.testBit h = false := by simpa using c
        have t1 : zcmp .eq ((y >>> (Int32.ofNat h &&& 31)) &&& 1) 0 = true := (tbu h6).trans (by rw [hR h h6, c0]; rfl)
        obtain ⟨m', d1, d2, d3⟩ := ih (h := h + 1) (m := m) (E := E) Rm hE (by omega) (by omega)
        refine ⟨m', ob r77 (oF g (oT t1 ?_)), ?_, d3⟩
        · unfold D3_51_9_88
          rw [(o1 (n := h) (by omega)).2.2]
          exact d1
        · show ∀ X, X < 64 → m'.1 54 X = Int32.ofNat (mpu S R (h + 1) (N - (h + 1)) (if R.testBit h = true then fun X => if X = S ||| 2 ^ h then E X ||| 2 ^ h else E X else E) X) ∧ mpu S R (h + 1) (N - (h + 1)) (if R.testBit h = true then fun X => if X = S ||| 2 ^ h then E X ||| 2 ^ h else E X else E) X < 64
          rw [if_neg c]
          exact d2
theorem c3_5_51_9 (e0 : s 0 = Int32.ofNat N) (hN : N ≤ 6) {S : Nat} (hS : S < 64) {m : xS} {E : Nat → Nat} (Rm : R32 s (m.1 10)) (hT : ∀ a, a < 6 → T a = nb6 (m.1 10 (72 + a))) (hE : ∀ X, X < 64 → m.1 54 X = Int32.ofNat (E X) ∧ E X < 64) : ∀ (f : Nat) {h r0 : Nat} {r : Int32}, (∀ d, d < 6 → tbt r d = r0.testBit d) → h ≤ N → N - h < f → ∃ y : Int32, D3_51_9_5 F f (Int32.ofNat S) r (Int32.ofNat h) m = D3_51_9_52 F F (Int32.ofNat S) y 0 m ∧ ∀ d, d < 6 → tbt y d = (mre T (E S) h (N - h) r0 &&& (63 ^^^ S)).testBit d := by
  have eN := nJ (n := N) (by omega)
  have eS := nJ (n := S) (by omega)
  have r77 := c77_9 (F := F) Rm
  rw [e0] at r77
  intro f
  induction f with
  | zero => intro h r0 r _ _ l; omega
  | succ f ih =>
    intro h r0 r hr hh l
    have eh := nJ (n := h) (by omega)
    unfold D3_51_9_5
    by_cases q : N ≤ h
    · rw [show N - h = 0 by omega]
      refine ⟨_, ob r77 (oT (zc.trans (decide_eq_true (by dsimp only; omega))) rfl), fun d hd => ?_⟩
      show _ = (r0 &&& (63 ^^^ S)).testBit d
      rw [tb_and, tb_xor, hr d hd, tb_nat hS hd, tb_m1 hd, Nat.testBit_and, tb63 hd, Bool.xor_true]
    · rw [show N - h = (N - (h + 1)) + 1 by omega]
      have g : zcmp .ge (Int32.ofNat h) (Int32.ofNat N) = false := zc.trans (decide_eq_false (by omega))
      have h6 : h < 6 := by omega
      obtain ⟨v1, v2⟩ := hE S hS
      show ∃ y : Int32, _ = _ ∧ ∀ d, d < 6 → tbt y d = (mre T (E S) (h + 1) (N - (h + 1)) (if (E S).testBit h = true then r0 ||| T h else r0) &&& (63 ^^^ S)).testBit d
      by_cases c : (E S).testBit h = true
      · have t1 : zcmp .eq ((Int32.ofNat (E S) >>> (Int32.ofNat h &&& 31)) &&& 1) 0 = false := (tbe v2 h6).trans (by rw [c]; rfl)
        have r91 := c91_9 (F := F) Rm (a := h) rfl h6
        obtain ⟨y, y1, y2⟩ := ih (h := h + 1) (r := r ||| m.1 10 (72 + h)) (r0 := r0 ||| T h) (fun d hd => by rw [tb_or, hr d hd, Nat.testBit_or, hT h h6, nb6_t hd]) (by omega) (by omega)
        rw [if_pos c]
        refine ⟨y, ob r77 (oF g ?_), y2⟩
        rw [if_pos (gxb eS hS), gxn eS, v1]
        refine oF t1 (ob r91 ?_)
        unfold D3_51_9_37
        rw [(o1 (n := h) (by omega)).2.2]
        exact y1
      · have c0 : (E S).testBit h = false := by simpa using c
        have t1 : zcmp .eq ((Int32.ofNat (E S) >>> (Int32.ofNat h &&& 31)) &&& 1) 0 = true := (tbe v2 h6).trans (by rw [c0]; rfl)
        obtain ⟨y, y1, y2⟩ := ih (h := h + 1) (r := r) (r0 := r0) hr (by omega) (by omega)
        rw [if_neg c]
        refine ⟨y, ob r77 (oF g ?_), y2⟩
        rw [if_pos (gxb eS hS), gxn eS, v1]
        refine oT t1 ?_
        unfold D3_51_9_37
        rw [(o1 (n := h) (by omega)).2.2]
        exact y1
/-- what rows most, fewest and ends hold -/
def stM_51 (m : xS) (q : (Nat → Nat) × (Nat → Int) × (Nat → Int)) : Prop := (∀ j, j < 6 → (m.1 52 j).toInt = q.2.1 j ∧ (m.1 53 j).toInt = q.2.2 j) ∧ ∀ X, X < 64 → m.1 54 X = Int32.ofNat (q.1 X) ∧ q.1 X < 64
def km_51 (m m' : xS) : Prop := (∀ i, i ≠ 52 → i ≠ 53 → i ≠ 54 → m'.1 i = m.1 i) ∧ m'.2 = m.2
theorem km_t_51 {a b c : xS} (h1 : km_51 a b) (h2 : km_51 b c) : km_51 a c := ⟨fun i x y z => (h2.1 i x y z).trans (h1.1 i x y z), h2.2.trans h1.2⟩
theorem c1_67_51_9 (hF : 100 ≤ F) (e0 : s 0 = Int32.ofNat N) (hN : N ≤ 6) {b : Nat} (hb : b < 64) {v2 v3 : Int32} : ∀ (f : Nat) {S : Nat} {m : xS} {q : (Nat → Nat) × (Nat → Int) × (Nat → Int)}, R32 s (m.1 10) → (∀ a, a < 6 → T a = nb6 (m.1 10 (72 + a))) → stM_51 m q → S ≤ 2 ^ N → 2 ^ N - S < f → ∃ m', D1_51_9_67 F f v2 v3 (Int32.ofNat b) (Int32.ofNat (2 ^ N)) (Int32.ofNat S) m = some ((), m') ∧ stM_51 m' (mms T N b S (2 ^ N - S) q) ∧ km_51 m m' := by
  have h64 : (2 : Nat) ^ N ≤ 64 := Nat.pow_le_pow_right (n := 2) (by decide) hN
  have eP := nJ (n := 2 ^ N) (by omega)
  have e64 := nJ (n := 64) (by decide)
  intro f
  induction f with
  | zero => intro S m q _ _ _ _ l; omega
  | succ f ih =>
    intro S m q Rm hT hq hS l
    have eS := nJ (n := S) (by omega)
    unfold D1_51_9_67
    by_cases z : 2 ^ N ≤ S
    · rw [show 2 ^ N - S = 0 by omega]
      exact ⟨m, oT (zc.trans (decide_eq_true (by omega))) rfl, hq, fun _ _ _ _ => rfl, rfl⟩
    · rw [show 2 ^ N - S = (2 ^ N - (S + 1)) + 1 by omega]
      have g : zcmp .ge (Int32.ofNat S) (Int32.ofNat (2 ^ N)) = false := zc.trans (decide_eq_false (by omega))
      have g2 : zcmp .ge (Int32.ofNat S) (Int32.ofNat 64) = false := zc.trans (decide_eq_false (by omega))
      have xS64 : xib (Int32.ofNat S) 64 = true := gxb eS (by omega)
      obtain ⟨v1, v2'⟩ := hq.2 S (by omega)
      have nx : ∀ {m2 : xS} {q2 : (Nat → Nat) × (Nat → Int) × (Nat → Int)}, (if q.1 S = 0 then q else (mgo T N S q.1, nmo N (q.1 S) (pc6 (S ^^^ b)) 0 q.2.1, nfe N (q.1 S) (pc6 (S ^^^ b)) 0 q.2.2)) = q2 → stM_51 m2 q2 → km_51 m m2 → ∃ m', D1_51_9_124 F (D1_51_9_67 F f) v2 v3 (Int32.ofNat b) (Int32.ofNat (2 ^ N)) (Int32.ofNat S) m2 = some ((), m') ∧ stM_51 m' (mms T N b S ((2 ^ N - (S + 1)) + 1) q) ∧ km_51 m m' := fun {m2 q2} k1 k2 k3 => by
        have r2 : m2.1 10 = m.1 10 := k3.1 10 (by decide) (by decide) (by decide)
        obtain ⟨m', d1, d2, d3⟩ := ih (S := S + 1) (m := m2) (q := q2) (by rw [r2]; exact Rm) (by rw [r2]; exact hT) k2 (by omega) (by omega)
        refine ⟨m', ?_, ?_, km_t_51 k3 d3⟩
        · unfold D1_51_9_124
          rw [(o1 (n := S) (by omega)).2.2]
          exact d1
        · show stM_51 m' (mms T N b (S + 1) (2 ^ N - (S + 1)) (if q.1 S = 0 then q else (mgo T N S q.1, nmo N (q.1 S) (pc6 (S ^^^ b)) 0 q.2.1, nfe N (q.1 S) (pc6 (S ^^^ b)) 0 q.2.2)))
          rw [k1]
          exact d2
      rw [if_pos xS64, gxn eS, v1]
      by_cases c : q.1 S = 0
      · have t1 : zcmp .eq (Int32.ofNat (q.1 S)) 0 = true := by
          rw [c]
          decide
        obtain ⟨m', d1, d2⟩ := nx (if_pos c) hq ⟨fun _ _ _ _ => rfl, rfl⟩
        exact ⟨m', oF g (oF g2 (oT t1 d1)), d2⟩
      · have t1 : zcmp .eq (Int32.ofNat (q.1 S)) 0 = false := by
          rw [zce, beq_eq_false_iff_ne]
          intro y
          have y := congrArg Int32.toInt y
          rw [nJ (by omega)] at y
          have l0 : (0 : Int32).toInt = 0 := rfl
          omega
        have r77 := c77_9 (F := F) Rm
        rw [e0] at r77
        have x1 : S ^^^ b < 64 := Nat.xor_lt_two_pow (n := 6) (by omega) hb
        have p10 : pc6 (S ^^^ b) < 10 := by
          unfold pc6
          omega
        obtain ⟨m1, y1, y2, y3, y4⟩ := c2_51 (F := F) (N := N) hN v2' p10 F (h := 0) (m := m) (mo := q.2.1) (fe := q.2.2) hq.1 (Nat.zero_le _) (by omega)
        have y1 : D2_51 F (Int32.ofNat N) (Int32.ofNat (q.1 S)) (Int32.ofNat (pc6 (S ^^^ b))) m = some ((), m1) := y1
        have e1 : ∀ X, X < 64 → m1.1 54 X = Int32.ofNat (q.1 X) ∧ q.1 X < 64 := by rw [y3 54 (by decide) (by decide)]; exact hq.2
        have r1 : m1.1 10 = m.1 10 := y3 10 (by decide) (by decide)
        obtain ⟨y, w5, w7⟩ := c3_5_51_9 (F := F) (s := s) (T := T) e0 hN (S := S) (by omega) (m := m1) (E := q.1) (by rw [r1]; exact Rm) (by rw [r1]; exact hT) e1 F (h := 0) (r0 := 0) (r := 0) (fun d hd => by rw [Nat.zero_testBit]; exact (tb_nat (S := 0) (by decide) hd).trans (Nat.zero_testBit d)) (Nat.zero_le _) (by omega)
        have w5 : D3_51_9 F (Int32.ofNat S) m1 = _ := w5
        rw [Nat.sub_zero] at w7
        obtain ⟨m2, u1, u2, u3, u4⟩ := c3_52_51_9 (F := F) (s := s) e0 hN (S := S) (by omega) w7 F (h := 0) (m := m1) (E := q.1) (by rw [r1]; exact Rm) e1 (Nat.zero_le _) (by omega)
        rw [Nat.sub_zero] at u2
        have w6 : D3_51_9 F (Int32.ofNat S) m1 = some ((), m2) := w5.trans u1
        obtain ⟨m', d1, d2⟩ := nx (m2 := m2) (if_neg c) ⟨fun j hj => by rw [u3 52 (by decide), u3 53 (by decide)]; exact y2 j hj, u2⟩ ⟨fun i a1 a2 a3 => (u3 i a3).trans (y3 i a1 a2), u4.trans y4⟩
        refine ⟨m', oF g (oF g2 (oF t1 (ob r77 ?_))), d2⟩
        rw [if_pos xS64, xor64 (by omega) hb]
        refine ob (bc64 x1) ?_
        dsimp only
        rw [v1]
        exact ob y1 (ob w6 d1)
/-- measure -/
theorem c1_51_9 (hF : 100 ≤ F) {m : xS} (e0 : s 0 = Int32.ofNat N) (hN : N ≤ 6) (Rm : R32 s (m.1 10)) (hT : ∀ a, a < 6 → T a = nb6 (m.1 10 (72 + a))) {t a o : Nat} {v2 : Int32} (h2 : v2 = Int32.ofNat t) (ht : t < 6) (ea : s (10 + 6 * t + 3) = Int32.ofNat a) (eo : s (10 + 6 * t + 0) = Int32.ofNat o) (ha : a < N) (ho : o < N) : ∃ m', D1_51_9 F v2 m = some ((), m') ∧ stM_51 m' (mms T N (2 ^ a ||| 2 ^ o) (2 ^ a ||| 2 ^ o) (2 ^ N - (2 ^ a ||| 2 ^ o)) (mst0 a (2 ^ a ||| 2 ^ o))) ∧ km_51 m m' := by
  have h64 : (2 : Nat) ^ N ≤ 64 := Nat.pow_le_pow_right (n := 2) (by decide) hN
  obtain ⟨pa, pa'⟩ := b2p (h := a) (by omega)
  obtain ⟨po, po'⟩ := bor (b := 2 ^ a) (h := o) pa' (by omega)
  have bN : 2 ^ a ||| 2 ^ o < 2 ^ N := Nat.or_lt_two_pow (Nat.pow_lt_pow_right (by decide) ha) (Nat.pow_lt_pow_right (by decide) ho)
  obtain ⟨m1, x1, x2, -, x3, x4⟩ := fl_52 (F := F) (v := -1) F (j := 0) (m := m) (by decide) (by omega)
  have x1 : D291_52 F (-1) m = some ((), m1) := x1
  obtain ⟨m2, y1, y2, -, y3, y4⟩ := fl_53 (F := F) (v := -1) F (j := 0) (m := m1) (by decide) (by omega)
  have y1 : D291_53 F (-1) m1 = some ((), m2) := y1
  obtain ⟨m3, z1, z2, -, z3, z4⟩ := fl_54 (F := F) (v := 0) F (j := 0) (m := m2) (by decide) (by omega)
  have z1 : D291_54 F 0 m2 = some ((), m3) := z1
  have rr : m3.1 10 = m.1 10 := (z3 10 (by decide)).trans ((y3 10 (by decide)).trans (x3 10 (by decide)))
  have R3 : R32 s (m3.1 10) := by rw [rr]; exact Rm
  have r3 := c87_9 (F := F) R3 (w := 3) h2 rfl ht (by decide)
  have r0 := c87_9 (F := F) R3 (w := 0) h2 rfl ht (by decide)
  rw [ea] at r3
  rw [eo] at r0
  have eb := nJ (n := 2 ^ a ||| 2 ^ o) (by omega)
  have R4 : R32 s ((xu m3 54 (2 ^ a ||| 2 ^ o) (Int32.ofNat (2 ^ a))).1 10) := by rw [xu_row (by decide)]; exact R3
  have r77 := c77_9 (F := F) R4
  rw [e0] at r77
  have st : stM_51 (xu m3 54 (2 ^ a ||| 2 ^ o) (Int32.ofNat (2 ^ a))) (mst0 a (2 ^ a ||| 2 ^ o)) := by
    refine ⟨fun j hj => ⟨?_, ?_⟩, fun X hX => ?_⟩
    · exact congrArg Int32.toInt ((congrFun (xu_row (by decide)) j).trans ((congrFun (z3 52 (by decide)) j).trans ((congrFun (y3 52 (by decide)) j).trans (x2 j (Nat.zero_le _) hj))))
    · exact congrArg Int32.toInt ((congrFun (xu_row (by decide)) j).trans ((congrFun (z3 53 (by decide)) j).trans (y2 j (Nat.zero_le _) hj)))
    · show _ = Int32.ofNat (if X = 2 ^ a ||| 2 ^ o then 2 ^ a else 0) ∧ (if X = 2 ^ a ||| 2 ^ o then 2 ^ a else 0) < 64
      by_cases y : X = 2 ^ a ||| 2 ^ o
      · rw [if_pos y, y, xu_s]
        exact ⟨rfl, pa'⟩
      · rw [if_neg y, xu_o (fun z => y z.2), z2 X (Nat.zero_le _) hX]
        exact ⟨rfl, by decide⟩
  obtain ⟨m', d1, d2, d3⟩ := c1_67_51_9 (F := F) (s := s) (T := T) hF e0 hN (b := 2 ^ a ||| 2 ^ o) (by omega) (v2 := v2) (v3 := Int32.ofNat a) F (S := 2 ^ a ||| 2 ^ o) (m := xu m3 54 (2 ^ a ||| 2 ^ o) (Int32.ofNat (2 ^ a))) (q := mst0 a (2 ^ a ||| 2 ^ o)) R4 (by rw [xu_row (by decide), rr]; exact hT) st (by omega) (by omega)
  refine ⟨m', ?_, d2, km_t_51 ⟨fun i a1 a2 a3 => ?_, ?_⟩ d3⟩
  · unfold D1_51_9
    refine ob x1 (ob y1 (ob z1 (ob r3 (ob r0 ?_))))
    dsimp only
    rw [pa, po, if_pos (gxb eb (by omega)), gxn eb]
    refine ob r77 ?_
    dsimp only
    rw [p2N hN]
    exact d1
  · rw [xu_row a3, z3 i a3, y3 i a2, x3 i a1]
  · exact z4.trans (y4.trans x4)
/-- measure, as the codes say -/
theorem meas_51_9 {s : Nat → Int32} {F : Nat} {m : xS} (hF : 100 ≤ F) (n6 : (s 0).toInt ≤ 6) (Rm : R32 s (m.1 10)) {t : Nat} (t6 : t < 6) (h0 : 0 ≤ (s (10 + 6 * t)).toInt ∧ (s (10 + 6 * t)).toInt < (s 0).toInt) (h3 : 0 ≤ (s (10 + 6 * t + 3)).toInt ∧ (s (10 + 6 * t + 3)).toInt < (s 0).toInt) : ∃ m', D1_51_9 F (Int32.ofNat t) m = some ((), m') ∧ (∀ h : Nat, (h : Int) < (s 0).toInt → m'.1 52 h = cvl s t h true ∧ m'.1 53 h = cvl s t h false) ∧ km_51 m m' := by
  obtain ⟨N, eN⟩ : ∃ N : Nat, (s 0).toInt = (N : Int) := ⟨(s 0).toInt.toNat, by omega⟩
  obtain ⟨a, ea⟩ : ∃ a : Nat, (s (10 + 6 * t + 3)).toInt = (a : Int) := ⟨(s (10 + 6 * t + 3)).toInt.toNat, by omega⟩
  obtain ⟨o, eo⟩ : ∃ o : Nat, (s (10 + 6 * t)).toInt = (o : Int) := ⟨(s (10 + 6 * t)).toInt.toNat, by omega⟩
  have ha : a < N := by omega
  have ho : o < N := by omega
  have hN : N ≤ 6 := by omega
  have bN : 2 ^ a ||| 2 ^ o < 2 ^ N := Nat.or_lt_two_pow (Nat.pow_lt_pow_right (by decide) ha) (Nat.pow_lt_pow_right (by decide) ho)
  obtain ⟨m', d1, d2, d3⟩ := c1_51_9 (F := F) (s := s) (N := N) (T := fun x => nb6 (m.1 10 (72 + x))) hF (m := m) (i32n eN) hN Rm (fun _ _ => rfl) (t := t) rfl t6 (i32n ea) (i32n eo) ha ho
  have I := mms_I (s := s) (T := fun x => nb6 (m.1 10 (72 + x))) ha hN bN (fun x hx d hd => (nb6_t hd).trans (R_tr Rm hx hd)) (2 ^ N - (2 ^ a ||| 2 ^ o)) (mst0_I ha hN bN)
  rw [show (2 ^ a ||| 2 ^ o) + (2 ^ N - (2 ^ a ||| 2 ^ o)) = 2 ^ N by omega] at I
  refine ⟨m', d1, fun h hh => ?_, d3⟩
  obtain ⟨v1, v2⟩ := cvl_v (s := s) (t := t) (h := h) (by omega) hN (i32n ea) (i32n eo) ha ho (by omega) I
  obtain ⟨w1, w2⟩ := d2.1 h (by omega)
  exact ⟨Int32.toInt_inj.mp (w1.trans v1), Int32.toInt_inj.mp (w2.trans v2)⟩
end PMS51_9
section PMS51_11t
variable {s : Nat → Int32} {T : Nat → Nat} {N : Nat} {F : Nat}
theorem c3_52_51_11t (e0 : s 0 = Int32.ofNat N) (hN : N ≤ 6) {S R : Nat} {y : Int32} (hS : S < 64) (hR : ∀ d, d < 6 → tbt y d = R.testBit d) : ∀ (f : Nat) {h : Nat} {m : xS} {E : Nat → Nat}, R32 s (m.1 12) → (∀ X, X < 64 → m.1 54 X = Int32.ofNat (E X) ∧ E X < 64) → h ≤ N → N - h < f → ∃ m', D3_51_11t_52 F f (Int32.ofNat S) y (Int32.ofNat h) m = some ((), m') ∧ (∀ X, X < 64 → m'.1 54 X = Int32.ofNat (mpu S R h (N - h) E X) ∧ mpu S R h (N - h) E X < 64) ∧ (∀ i, i ≠ 54 → m'.1 i = m.1 i) ∧ m'.2 = m.2 := by
  have eN := nJ (n := N) (by omega)
  intro f
  induction f with
  | zero => intro h m E _ _ _ l; omega
  | succ f ih =>
    intro h m E Rm hE hh l
    have eh := nJ (n := h) (by omega)
    have r77 := c77_11t (F := F) Rm
    rw [e0] at r77
    unfold D3_51_11t_52
    by_cases q : N ≤ h
    · rw [show N - h = 0 by omega]
      exact ⟨m, ob r77 (oT (zc.trans (decide_eq_true (by dsimp only; omega))) rfl), hE, fun _ _ => rfl, rfl⟩
    · rw [show N - h = (N - (h + 1)) + 1 by omega]
      have g : zcmp .ge (Int32.ofNat h) (Int32.ofNat N) = false := zc.trans (decide_eq_false (by omega))
      have h6 : h < 6 := by omega
      by_cases c : R.testBit h = true
      · have t1 : zcmp .eq ((y >>> (Int32.ofNat h &&& 31)) &&& 1) 0 = false := (tbu h6).trans (by rw [hR h h6, c]; rfl)
        obtain ⟨b1, b2⟩ := bor hS h6
        obtain ⟨v1, v2⟩ := hE (S ||| 2 ^ h) b2
        obtain ⟨w1, w2⟩ := bor v2 h6
        have eS := nJ (n := S ||| 2 ^ h) (by omega)
        obtain ⟨m', d1, d2, d3, d4⟩ := ih (h := h + 1) (m := xu m 54 (S ||| 2 ^ h) (Int32.ofNat (E (S ||| 2 ^ h) ||| 2 ^ h))) (E := fun X => if X = S ||| 2 ^ h then E X ||| 2 ^ h else E X) (by rw [xu_row (by decide)]; exact Rm) (fun X hX => by
          by_cases w : X = S ||| 2 ^ h
          · subst w
            rw [xu_s, if_pos rfl]
            exact ⟨rfl, w2⟩
          · rw [xu_o (fun z => w z.2)]
            rw [if_neg w]
            exact hE X hX) (by omega) (by omega)
        refine ⟨m', ob r77 (oF g (oF t1 ?_)), ?_, fun i a => (d3 i a).trans (xu_row a), d4⟩
        · rw [b1, if_pos (gxb eS b2), if_pos (gxb eS b2), gxn eS, v1, w1]
          unfold D3_51_11t_88
          rw [(o1 (n := h) (by omega)).2.2]
          exact d1
        · show ∀ X, X < 64 → m'.1 54 X = Int32.ofNat (mpu S R (h + 1) (N - (h + 1)) (if R.testBit h = true then fun X => if X = S ||| 2 ^ h then E X ||| 2 ^ h else E X else E) X) ∧ mpu S R (h + 1) (N - (h + 1)) (if R.testBit h = true then fun X => if X = S ||| 2 ^ h then E X ||| 2 ^ h else E X else E) X < 64
          rw [if_pos c]
          exact d2
      · have c0 : R.testBit h = false := by simpa using c
        have t1 : zcmp .eq ((y >>> (Int32.ofNat h &&& 31)) &&& 1) 0 = true := (tbu h6).trans (by rw [hR h h6, c0]; rfl)
        obtain ⟨m', d1, d2, d3⟩ := ih (h := h + 1) (m := m) (E := E) Rm hE (by omega) (by omega)
        refine ⟨m', ob r77 (oF g (oT t1 ?_)), ?_, d3⟩
        · unfold D3_51_11t_88
          rw [(o1 (n := h) (by omega)).2.2]
          exact d1
        · show ∀ X, X < 64 → m'.1 54 X = Int32.ofNat (mpu S R (h + 1) (N - (h + 1)) (if R.testBit h = true then fun X => if X = S ||| 2 ^ h then E X ||| 2 ^ h else E X else E) X) ∧ mpu S R (h + 1) (N - (h + 1)) (if R.testBit h = true then fun X => if X = S ||| 2 ^ h then E X ||| 2 ^ h else E X else E) X < 64
          rw [if_neg c]
          exact d2
theorem c3_5_51_11t (e0 : s 0 = Int32.ofNat N) (hN : N ≤ 6) {S : Nat} (hS : S < 64) {m : xS} {E : Nat → Nat} (Rm : R32 s (m.1 12)) (hT : ∀ a, a < 6 → T a = nb6 (m.1 12 (72 + a))) (hE : ∀ X, X < 64 → m.1 54 X = Int32.ofNat (E X) ∧ E X < 64) : ∀ (f : Nat) {h r0 : Nat} {r : Int32}, (∀ d, d < 6 → tbt r d = r0.testBit d) → h ≤ N → N - h < f → ∃ y : Int32, D3_51_11t_5 F f (Int32.ofNat S) r (Int32.ofNat h) m = D3_51_11t_52 F F (Int32.ofNat S) y 0 m ∧ ∀ d, d < 6 → tbt y d = (mre T (E S) h (N - h) r0 &&& (63 ^^^ S)).testBit d := by
  have eN := nJ (n := N) (by omega)
  have eS := nJ (n := S) (by omega)
  have r77 := c77_11t (F := F) Rm
  rw [e0] at r77
  intro f
  induction f with
  | zero => intro h r0 r _ _ l; omega
  | succ f ih =>
    intro h r0 r hr hh l
    have eh := nJ (n := h) (by omega)
    unfold D3_51_11t_5
    by_cases q : N ≤ h
    · rw [show N - h = 0 by omega]
      refine ⟨_, ob r77 (oT (zc.trans (decide_eq_true (by dsimp only; omega))) rfl), fun d hd => ?_⟩
      show _ = (r0 &&& (63 ^^^ S)).testBit d
      rw [tb_and, tb_xor, hr d hd, tb_nat hS hd, tb_m1 hd, Nat.testBit_and, tb63 hd, Bool.xor_true]
    · rw [show N - h = (N - (h + 1)) + 1 by omega]
      have g : zcmp .ge (Int32.ofNat h) (Int32.ofNat N) = false := zc.trans (decide_eq_false (by omega))
      have h6 : h < 6 := by omega
      obtain ⟨v1, v2⟩ := hE S hS
      show ∃ y : Int32, _ = _ ∧ ∀ d, d < 6 → tbt y d = (mre T (E S) (h + 1) (N - (h + 1)) (if (E S).testBit h = true then r0 ||| T h else r0) &&& (63 ^^^ S)).testBit d
      by_cases c : (E S).testBit h = true
      · have t1 : zcmp .eq ((Int32.ofNat (E S) >>> (Int32.ofNat h &&& 31)) &&& 1) 0 = false := (tbe v2 h6).trans (by rw [c]; rfl)
        have r91 := c91_11t (F := F) Rm (a := h) rfl h6
        obtain ⟨y, y1, y2⟩ := ih (h := h + 1) (r := r ||| m.1 12 (72 + h)) (r0 := r0 ||| T h) (fun d hd => by rw [tb_or, hr d hd, Nat.testBit_or, hT h h6, nb6_t hd]) (by omega) (by omega)
        rw [if_pos c]
        refine ⟨y, ob r77 (oF g ?_), y2⟩
        rw [if_pos (gxb eS hS), gxn eS, v1]
        refine oF t1 (ob r91 ?_)
        unfold D3_51_11t_37
        rw [(o1 (n := h) (by omega)).2.2]
        exact y1
      · have c0 : (E S).testBit h = false := by simpa using c
        have t1 : zcmp .eq ((Int32.ofNat (E S) >>> (Int32.ofNat h &&& 31)) &&& 1) 0 = true := (tbe v2 h6).trans (by rw [c0]; rfl)
        obtain ⟨y, y1, y2⟩ := ih (h := h + 1) (r := r) (r0 := r0) hr (by omega) (by omega)
        rw [if_neg c]
        refine ⟨y, ob r77 (oF g ?_), y2⟩
        rw [if_pos (gxb eS hS), gxn eS, v1]
        refine oT t1 ?_
        unfold D3_51_11t_37
        rw [(o1 (n := h) (by omega)).2.2]
        exact y1
theorem c1_67_51_11t (hF : 100 ≤ F) (e0 : s 0 = Int32.ofNat N) (hN : N ≤ 6) {b : Nat} (hb : b < 64) {v2 v3 : Int32} : ∀ (f : Nat) {S : Nat} {m : xS} {q : (Nat → Nat) × (Nat → Int) × (Nat → Int)}, R32 s (m.1 12) → (∀ a, a < 6 → T a = nb6 (m.1 12 (72 + a))) → stM_51 m q → S ≤ 2 ^ N → 2 ^ N - S < f → ∃ m', D1_51_11t_67 F f v2 v3 (Int32.ofNat b) (Int32.ofNat (2 ^ N)) (Int32.ofNat S) m = some ((), m') ∧ stM_51 m' (mms T N b S (2 ^ N - S) q) ∧ km_51 m m' := by
  have h64 : (2 : Nat) ^ N ≤ 64 := Nat.pow_le_pow_right (n := 2) (by decide) hN
  have eP := nJ (n := 2 ^ N) (by omega)
  have e64 := nJ (n := 64) (by decide)
  intro f
  induction f with
  | zero => intro S m q _ _ _ _ l; omega
  | succ f ih =>
    intro S m q Rm hT hq hS l
    have eS := nJ (n := S) (by omega)
    unfold D1_51_11t_67
    by_cases z : 2 ^ N ≤ S
    · rw [show 2 ^ N - S = 0 by omega]
      exact ⟨m, oT (zc.trans (decide_eq_true (by omega))) rfl, hq, fun _ _ _ _ => rfl, rfl⟩
    · rw [show 2 ^ N - S = (2 ^ N - (S + 1)) + 1 by omega]
      have g : zcmp .ge (Int32.ofNat S) (Int32.ofNat (2 ^ N)) = false := zc.trans (decide_eq_false (by omega))
      have g2 : zcmp .ge (Int32.ofNat S) (Int32.ofNat 64) = false := zc.trans (decide_eq_false (by omega))
      have xS64 : xib (Int32.ofNat S) 64 = true := gxb eS (by omega)
      obtain ⟨v1, v2'⟩ := hq.2 S (by omega)
      have nx : ∀ {m2 : xS} {q2 : (Nat → Nat) × (Nat → Int) × (Nat → Int)}, (if q.1 S = 0 then q else (mgo T N S q.1, nmo N (q.1 S) (pc6 (S ^^^ b)) 0 q.2.1, nfe N (q.1 S) (pc6 (S ^^^ b)) 0 q.2.2)) = q2 → stM_51 m2 q2 → km_51 m m2 → ∃ m', D1_51_11t_124 F (D1_51_11t_67 F f) v2 v3 (Int32.ofNat b) (Int32.ofNat (2 ^ N)) (Int32.ofNat S) m2 = some ((), m') ∧ stM_51 m' (mms T N b S ((2 ^ N - (S + 1)) + 1) q) ∧ km_51 m m' := fun {m2 q2} k1 k2 k3 => by
        have r2 : m2.1 12 = m.1 12 := k3.1 12 (by decide) (by decide) (by decide)
        obtain ⟨m', d1, d2, d3⟩ := ih (S := S + 1) (m := m2) (q := q2) (by rw [r2]; exact Rm) (by rw [r2]; exact hT) k2 (by omega) (by omega)
        refine ⟨m', ?_, ?_, km_t_51 k3 d3⟩
        · unfold D1_51_11t_124
          rw [(o1 (n := S) (by omega)).2.2]
          exact d1
        · show stM_51 m' (mms T N b (S + 1) (2 ^ N - (S + 1)) (if q.1 S = 0 then q else (mgo T N S q.1, nmo N (q.1 S) (pc6 (S ^^^ b)) 0 q.2.1, nfe N (q.1 S) (pc6 (S ^^^ b)) 0 q.2.2)))
          rw [k1]
          exact d2
      rw [if_pos xS64, gxn eS, v1]
      by_cases c : q.1 S = 0
      · have t1 : zcmp .eq (Int32.ofNat (q.1 S)) 0 = true := by
          rw [c]
          decide
        obtain ⟨m', d1, d2⟩ := nx (if_pos c) hq ⟨fun _ _ _ _ => rfl, rfl⟩
        exact ⟨m', oF g (oF g2 (oT t1 d1)), d2⟩
      · have t1 : zcmp .eq (Int32.ofNat (q.1 S)) 0 = false := by
          rw [zce, beq_eq_false_iff_ne]
          intro y
          have y := congrArg Int32.toInt y
          rw [nJ (by omega)] at y
          have l0 : (0 : Int32).toInt = 0 := rfl
          omega
        have r77 := c77_11t (F := F) Rm
        rw [e0] at r77
        have x1 : S ^^^ b < 64 := Nat.xor_lt_two_pow (n := 6) (by omega) hb
        have p10 : pc6 (S ^^^ b) < 10 := by
          unfold pc6
          omega
        obtain ⟨m1, y1, y2, y3, y4⟩ := c2_51 (F := F) (N := N) hN v2' p10 F (h := 0) (m := m) (mo := q.2.1) (fe := q.2.2) hq.1 (Nat.zero_le _) (by omega)
        have y1 : D2_51 F (Int32.ofNat N) (Int32.ofNat (q.1 S)) (Int32.ofNat (pc6 (S ^^^ b))) m = some ((), m1) := y1
        have e1 : ∀ X, X < 64 → m1.1 54 X = Int32.ofNat (q.1 X) ∧ q.1 X < 64 := by rw [y3 54 (by decide) (by decide)]; exact hq.2
        have r1 : m1.1 12 = m.1 12 := y3 12 (by decide) (by decide)
        obtain ⟨y, w5, w7⟩ := c3_5_51_11t (F := F) (s := s) (T := T) e0 hN (S := S) (by omega) (m := m1) (E := q.1) (by rw [r1]; exact Rm) (by rw [r1]; exact hT) e1 F (h := 0) (r0 := 0) (r := 0) (fun d hd => by rw [Nat.zero_testBit]; exact (tb_nat (S := 0) (by decide) hd).trans (Nat.zero_testBit d)) (Nat.zero_le _) (by omega)
        have w5 : D3_51_11t F (Int32.ofNat S) m1 = _ := w5
        rw [Nat.sub_zero] at w7
        obtain ⟨m2, u1, u2, u3, u4⟩ := c3_52_51_11t (F := F) (s := s) e0 hN (S := S) (by omega) w7 F (h := 0) (m := m1) (E := q.1) (by rw [r1]; exact Rm) e1 (Nat.zero_le _) (by omega)
        rw [Nat.sub_zero] at u2
        have w6 : D3_51_11t F (Int32.ofNat S) m1 = some ((), m2) := w5.trans u1
        obtain ⟨m', d1, d2⟩ := nx (m2 := m2) (if_neg c) ⟨fun j hj => by rw [u3 52 (by decide), u3 53 (by decide)]; exact y2 j hj, u2⟩ ⟨fun i a1 a2 a3 => (u3 i a3).trans (y3 i a1 a2), u4.trans y4⟩
        refine ⟨m', oF g (oF g2 (oF t1 (ob r77 ?_))), d2⟩
        rw [if_pos xS64, xor64 (by omega) hb]
        refine ob (bc64 x1) ?_
        dsimp only
        rw [v1]
        exact ob y1 (ob w6 d1)
/-- measure -/
theorem c1_51_11t (hF : 100 ≤ F) {m : xS} (e0 : s 0 = Int32.ofNat N) (hN : N ≤ 6) (Rm : R32 s (m.1 12)) (hT : ∀ a, a < 6 → T a = nb6 (m.1 12 (72 + a))) {t a o : Nat} {v2 : Int32} (h2 : v2 = Int32.ofNat t) (ht : t < 6) (ea : s (10 + 6 * t + 3) = Int32.ofNat a) (eo : s (10 + 6 * t + 0) = Int32.ofNat o) (ha : a < N) (ho : o < N) : ∃ m', D1_51_11t F v2 m = some ((), m') ∧ stM_51 m' (mms T N (2 ^ a ||| 2 ^ o) (2 ^ a ||| 2 ^ o) (2 ^ N - (2 ^ a ||| 2 ^ o)) (mst0 a (2 ^ a ||| 2 ^ o))) ∧ km_51 m m' := by
  have h64 : (2 : Nat) ^ N ≤ 64 := Nat.pow_le_pow_right (n := 2) (by decide) hN
  obtain ⟨pa, pa'⟩ := b2p (h := a) (by omega)
  obtain ⟨po, po'⟩ := bor (b := 2 ^ a) (h := o) pa' (by omega)
  have bN : 2 ^ a ||| 2 ^ o < 2 ^ N := Nat.or_lt_two_pow (Nat.pow_lt_pow_right (by decide) ha) (Nat.pow_lt_pow_right (by decide) ho)
  obtain ⟨m1, x1, x2, -, x3, x4⟩ := fl_52 (F := F) (v := -1) F (j := 0) (m := m) (by decide) (by omega)
  have x1 : D291_52 F (-1) m = some ((), m1) := x1
  obtain ⟨m2, y1, y2, -, y3, y4⟩ := fl_53 (F := F) (v := -1) F (j := 0) (m := m1) (by decide) (by omega)
  have y1 : D291_53 F (-1) m1 = some ((), m2) := y1
  obtain ⟨m3, z1, z2, -, z3, z4⟩ := fl_54 (F := F) (v := 0) F (j := 0) (m := m2) (by decide) (by omega)
  have z1 : D291_54 F 0 m2 = some ((), m3) := z1
  have rr : m3.1 12 = m.1 12 := (z3 12 (by decide)).trans ((y3 12 (by decide)).trans (x3 12 (by decide)))
  have R3 : R32 s (m3.1 12) := by rw [rr]; exact Rm
  have r3 := c87_11t (F := F) R3 (w := 3) h2 rfl ht (by decide)
  have r0 := c87_11t (F := F) R3 (w := 0) h2 rfl ht (by decide)
  rw [ea] at r3
  rw [eo] at r0
  have eb := nJ (n := 2 ^ a ||| 2 ^ o) (by omega)
  have R4 : R32 s ((xu m3 54 (2 ^ a ||| 2 ^ o) (Int32.ofNat (2 ^ a))).1 12) := by rw [xu_row (by decide)]; exact R3
  have r77 := c77_11t (F := F) R4
  rw [e0] at r77
  have st : stM_51 (xu m3 54 (2 ^ a ||| 2 ^ o) (Int32.ofNat (2 ^ a))) (mst0 a (2 ^ a ||| 2 ^ o)) := by
    refine ⟨fun j hj => ⟨?_, ?_⟩, fun X hX => ?_⟩
    · exact congrArg Int32.toInt ((congrFun (xu_row (by decide)) j).trans ((congrFun (z3 52 (by decide)) j).trans ((congrFun (y3 52 (by decide)) j).trans (x2 j (Nat.zero_le _) hj))))
    · exact congrArg Int32.toInt ((congrFun (xu_row (by decide)) j).trans ((congrFun (z3 53 (by decide)) j).trans (y2 j (Nat.zero_le _) hj)))
    · show _ = Int32.ofNat (if X = 2 ^ a ||| 2 ^ o then 2 ^ a else 0) ∧ (if X = 2 ^ a ||| 2 ^ o then 2 ^ a else 0) < 64
      by_cases y : X = 2 ^ a ||| 2 ^ o
      · rw [if_pos y, y, xu_s]
        exact ⟨rfl, pa'⟩
      · rw [if_neg y, xu_o (fun z => y z.2), z2 X (Nat.zero_le _) hX]
        exact ⟨rfl, by decide⟩
  obtain ⟨m', d1, d2, d3⟩ := c1_67_51_11t (F := F) (s := s) (T := T) hF e0 hN (b := 2 ^ a ||| 2 ^ o) (by omega) (v2 := v2) (v3 := Int32.ofNat a) F (S := 2 ^ a ||| 2 ^ o) (m := xu m3 54 (2 ^ a ||| 2 ^ o) (Int32.ofNat (2 ^ a))) (q := mst0 a (2 ^ a ||| 2 ^ o)) R4 (by rw [xu_row (by decide), rr]; exact hT) st (by omega) (by omega)
  refine ⟨m', ?_, d2, km_t_51 ⟨fun i a1 a2 a3 => ?_, ?_⟩ d3⟩
  · unfold D1_51_11t
    refine ob x1 (ob y1 (ob z1 (ob r3 (ob r0 ?_))))
    dsimp only
    rw [pa, po, if_pos (gxb eb (by omega)), gxn eb]
    refine ob r77 ?_
    dsimp only
    rw [p2N hN]
    exact d1
  · rw [xu_row a3, z3 i a3, y3 i a2, x3 i a1]
  · exact z4.trans (y4.trans x4)
/-- measure, as the codes say -/
theorem meas_51_11t {s : Nat → Int32} {F : Nat} {m : xS} (hF : 100 ≤ F) (n6 : (s 0).toInt ≤ 6) (Rm : R32 s (m.1 12)) {t : Nat} (t6 : t < 6) (h0 : 0 ≤ (s (10 + 6 * t)).toInt ∧ (s (10 + 6 * t)).toInt < (s 0).toInt) (h3 : 0 ≤ (s (10 + 6 * t + 3)).toInt ∧ (s (10 + 6 * t + 3)).toInt < (s 0).toInt) : ∃ m', D1_51_11t F (Int32.ofNat t) m = some ((), m') ∧ (∀ h : Nat, (h : Int) < (s 0).toInt → m'.1 52 h = cvl s t h true ∧ m'.1 53 h = cvl s t h false) ∧ km_51 m m' := by
  obtain ⟨N, eN⟩ : ∃ N : Nat, (s 0).toInt = (N : Int) := ⟨(s 0).toInt.toNat, by omega⟩
  obtain ⟨a, ea⟩ : ∃ a : Nat, (s (10 + 6 * t + 3)).toInt = (a : Int) := ⟨(s (10 + 6 * t + 3)).toInt.toNat, by omega⟩
  obtain ⟨o, eo⟩ : ∃ o : Nat, (s (10 + 6 * t)).toInt = (o : Int) := ⟨(s (10 + 6 * t)).toInt.toNat, by omega⟩
  have ha : a < N := by omega
  have ho : o < N := by omega
  have hN : N ≤ 6 := by omega
  have bN : 2 ^ a ||| 2 ^ o < 2 ^ N := Nat.or_lt_two_pow (Nat.pow_lt_pow_right (by decide) ha) (Nat.pow_lt_pow_right (by decide) ho)
  obtain ⟨m', d1, d2, d3⟩ := c1_51_11t (F := F) (s := s) (N := N) (T := fun x => nb6 (m.1 12 (72 + x))) hF (m := m) (i32n eN) hN Rm (fun _ _ => rfl) (t := t) rfl t6 (i32n ea) (i32n eo) ha ho
  have I := mms_I (s := s) (T := fun x => nb6 (m.1 12 (72 + x))) ha hN bN (fun x hx d hd => (nb6_t hd).trans (R_tr Rm hx hd)) (2 ^ N - (2 ^ a ||| 2 ^ o)) (mst0_I ha hN bN)
  rw [show (2 ^ a ||| 2 ^ o) + (2 ^ N - (2 ^ a ||| 2 ^ o)) = 2 ^ N by omega] at I
  refine ⟨m', d1, fun h hh => ?_, d3⟩
  obtain ⟨v1, v2⟩ := cvl_v (s := s) (t := t) (h := h) (by omega) hN (i32n ea) (i32n eo) ha ho (by omega) I
  obtain ⟨w1, w2⟩ := d2.1 h (by omega)
  exact ⟨Int32.toInt_inj.mp (w1.trans v1), Int32.toInt_inj.mp (w2.trans v2)⟩
end PMS51_11t
