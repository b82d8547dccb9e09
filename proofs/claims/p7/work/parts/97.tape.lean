/-! Tapes and numbers of rules alike, through every pair of calls. -/
abbrev r0M : yM := [(0, 0, 1), (0, 0, 8), (1, 1, 1000), (70, 70, 1), (70, 70, 2), (71, 71, 1000)]
def r0 (hp : zHp) : Prop := ((xof hp).1 70 1).toInt = ((xof hp).1 0 1).toInt ∧ ((xof hp).1 70 2).toInt = ((xof hp).1 0 8).toInt ∧ ∀ j : Nat, (j : Int) < ((xof hp).1 0 1).toInt → ((xof hp).1 71 j).toInt = (if ((xof hp).1 1 j).toInt < 128 then ((xof hp).1 1 j).toInt else ((xof hp).1 1 j).toInt - 256)
abbrev rI (hp : zHp) : Prop := (yH0 hp ∧ yEA yAr hp) ∧ r0 hp
section ETAPE
theorem r0_F {M : yM} {hp z : zHp} (f : yF M hp z) (h : ydj M r0M = true) (k : r0 hp) : r0 z := by
  have q : ∀ i j : Nat, yinM r0M i (j : Int) = true → (xof z).1 i j = (xof hp).1 i j := fun i j hj => eF f (ydj_ok h i j hj)
  unfold r0 at k ⊢
  rw [q 70 1 rfl, q 0 1 rfl, q 70 2 rfl, q 0 8 rfl]
  refine ⟨k.1, k.2.1, fun j hj => ?_⟩
  rw [q 71 j (by unfold yinM; rfl), q 1 j (by unfold yinM; rfl)]
  exact k.2.2 j hj
/-- a pair that leaves tapes and numbers of rules alone -/
theorem eP {n1 n2 : Nat} {sp1 sp2 : ySp} (T1 : yTs (yEA yAr) n1 sp1) (T2 : yTs (yEA yAr) n2 sp2) {na : Nat} {bl : List Nat} (c1 : (eOk 0 na bl sp1.2.2.1 && (decide (n1 ≤ 20) && (decide (na + 1 ≤ sp1.2.1) && sp1.2.2.2.1.all eQok))) = true) (c2 : (eOk 70 na bl sp2.2.2.1 && (decide (n2 ≤ 20) && (decide (na + 1 ≤ sp2.2.1) && sp2.2.2.2.1.all eQok))) = true) (hM : (ydj sp1.2.2.2.2 r0M && ydj sp2.2.2.2.2 r0M) = true) (ys : List Int32) (hl : ys.length = na) (hb : ∀ s ∈ bl, ∀ y, ys[s]? = some y → 0 ≤ y.toInt ∧ y.toInt ≤ 1) : lP rI sp1.1 sp2.1 (ys.map .int) false := fun hp hI => by
  rw [Bool.and_eq_true] at hM
  obtain ⟨x1, z1, a1, a2, a3, -⟩ := eSp T1 c1 hI.1 hl hb
  obtain ⟨x2, z2, b1, b2, b3, -⟩ := eSp T2 c2 a2 hl hb
  exact ⟨x1, x2, z1, z2, eK0 hI.1.1, eK70 a2.1, a1, a3.1, b1, b3.1, ⟨b2, r0_F b3 hM.2 (r0_F a3 hM.1 hI.2)⟩, fun h => by cases h⟩
theorem exo {B : zHp} {m : xS} {i j : Nat} {p : Int × Int} (H : yH0 (xW B m)) (h : xbn i j = some p) : (xof (xW B m)).1 i j = m.1 i j := xof_W B m i j ⟨_, erd H h⟩
theorem eb1 {j : Nat} (h : j < 400) : xbn 1 j = some (0, 255) := xbn_a (k := 0) (n := 400) (ec := 5) (by decide) rfl (by decide) h
theorem eb71 {j : Nat} (h : j < 400) : xbn 71 j = some (-128, 127) := xbn_a (k := 1) (n := 400) (ec := 6) (by decide) rfl (by decide) h
/-- a place that a spec's end knows -/
theorem eKq {z : zHp} {r2 : Nat → Int} {q : yS} {lv : List (Nat × Value)} {st : List Value} (g : yG z r2 q lv st) {i j : Nat} {c : Int} (h : (((yc (i : Int)), (yc (j : Int)), ((0, yc c, yc 0) : yV)) : yK) ∈ q.2.2.2.1) : ((xof z).1 i j).toInt = c := by
  obtain ⟨-, -, w, w1, w2⟩ := g.2.2.1 _ h
  have w1 : yrd z (yev r2 (yc (i : Int))).toNat (yev r2 (yc (j : Int))) = some w := w1
  rw [yev_c, yev_c, Int.toNat_natCast] at w1
  obtain ⟨x, rfl, hx⟩ := yvI' (a := (0, yc c, yc 0)) rfl w2
  rw [xof_rd, w1]
  exact hx.trans (yev_c _ _)
theorem eFeed {a1 a2 a3 a4 a5 : Int32} : lP rI 122 161 [.int a1, .int a2, .int a3, .int a4, .int a5] true := fun hp hI => by
  obtain ⟨x1, z1, p1, p2, p3, -⟩ := eSp (yt1542 yXx.1) (c := 0) (na := 5) (bl := []) (by decide +kernel) hI.1 (ys := [a1, a2, a3, a4, a5]) rfl (fun s hs => by cases hs)
  obtain ⟨x2, z2, q1, q2, q3, -⟩ := eSp (yt1548 yXx.1) (c := 70) (na := 5) (bl := []) (by decide +kernel) p2 (ys := [a1, a2, a3, a4, a5]) rfl (fun s hs => by cases hs)
  have hT := xT_of hI.1.1
  have b1 : (0 : Int) ≤ ((xof hp).1 0 1).toInt ∧ ((xof hp).1 0 1).toInt ≤ 400 := hT 0 1 (0, 400) rfl
  obtain ⟨L, hL⟩ : ∃ L : Nat, ((xof hp).1 0 1).toInt = (L : Int) := ⟨((xof hp).1 0 1).toInt.toNat, by omega⟩
  obtain ⟨y, hy, hQ⟩ := fcPF (F := 500) (m := xof hp) (L := L) (by_ := fun i => cB (if i / 4 = 0 then a1 else if i / 4 = 1 then a2 else if i / 4 = 2 then a3 else if i / 4 = 3 then a4 else a5) (tsh (i % 4))) (a1 := a1) (a2 := a2) (a3 := a3) (a4 := a4) (a5 := a5) (Nat.le_refl _) hT hL (fun i _ => rfl) (fun i => (cr_ok _ (tsh_ok _)).1)
  have u := Z122_0 hI.1.1 hy (d := 20) (by decide)
  rw [xW_of] at u
  have u := zCan_u p1 u
  cases u
  have f70 : ∀ j, (xof (xW hp y.2)).1 70 j = (xof hp).1 70 j := fun j => eF p3 (by unfold yinM; rfl)
  have f71 : ∀ j, (xof (xW hp y.2)).1 71 j = (xof hp).1 71 j := fun j => eF p3 (by unfold yinM; rfl)
  obtain ⟨y2, hy2, hQ2⟩ := frPF (F := 500) (m := xof (xW hp y.2)) (L := L) (by_ := fun i => rB8 (if i / 4 = 0 then a1 else if i / 4 = 1 then a2 else if i / 4 = 2 then a3 else if i / 4 = 3 then a4 else a5) (tsh (i % 4))) (a1 := a1) (a2 := a2) (a3 := a3) (a4 := a4) (a5 := a5) (Nat.le_refl _) (xT_of p2.1) (by rw [f70]; exact hI.2.1.trans hL) (fun i _ => rfl) (fun i => by
    have := cr_ok (if i / 4 = 0 then a1 else if i / 4 = 1 then a2 else if i / 4 = 2 then a3 else if i / 4 = 3 then a4 else a5) (tsh_ok (i % 4))
    rw [this.2]
    exact (show ∀ q : Int, (0 ≤ q ∧ q ≤ 255) → -128 ≤ (if q < 128 then q else q - 256) ∧ (if q < 128 then q else q - 256) ≤ 127 from fun q hq => by split <;> omega) _ this.1)
  have u2 := Z161 p2.1 hy2 (d := 20) (by decide)
  rw [xW_of] at u2
  have u2 := zCan_u q1 u2
  cases u2
  refine ⟨y.1, y2.1, _, _, eK0 hI.1.1, eK70 p2.1, p1, p3.1, q1, q3.1, ⟨q2, ?_⟩, fun _ => ?_⟩
  · rcases hQ with ⟨l1, v1, m1⟩ | ⟨l1, v1, g1⟩
    · rcases hQ2 with ⟨l2, v2, m2⟩ | ⟨l2, v2, g2⟩
      · rw [m2, xW_of, m1, xW_of]
        exact hI.2
      · omega
    · rcases hQ2 with ⟨l2, v2, m2⟩ | ⟨l2, v2, g2⟩
      · omega
      · obtain ⟨-, -, g13, g14, g15⟩ := g1
        obtain ⟨-, -, g23, g24, g25⟩ := g2
        have c01 : (xof (xW (xW hp y.2) y2.2)).1 0 1 = y.2.1 0 1 := (eF q3 rfl).trans (exo p2.1 rfl)
        have c08 : (xof (xW (xW hp y.2) y2.2)).1 0 8 = (xof hp).1 0 8 := (eF q3 rfl).trans (eF p3 rfl)
        have c1j : ∀ j, j < 400 → (xof (xW (xW hp y.2) y2.2)).1 1 j = y.2.1 1 j := fun j hj => (eF q3 (by unfold yinM; rfl)).trans (exo p2.1 (eb1 hj))
        have d1 : (xof (xW (xW hp y.2) y2.2)).1 70 1 = y2.2.1 70 1 := exo q2.1 rfl
        have d2 : (xof (xW (xW hp y.2) y2.2)).1 70 2 = (xof hp).1 70 2 := (eF q3 rfl).trans (f70 2)
        have d71 : ∀ j, j < 400 → (xof (xW (xW hp y.2) y2.2)).1 71 j = y2.2.1 71 j := fun j hj => exo q2.1 (eb71 hj)
        refine ⟨by rw [c01, d1, g13, g23], by rw [d2, c08]; exact hI.2.2.1, fun j hj => ?_⟩
        rw [c01, g13] at hj
        rw [c1j j (by omega), d71 j (by omega)]
        by_cases hh : j < L
        · rw [g14 j hh, g24 j hh, f71]
          exact hI.2.2.2 j (by omega)
        · obtain ⟨i, rfl⟩ : ∃ i, j = L + i := ⟨j - L, by omega⟩
          rw [g15 i (by omega), g25 i (by omega)]
          exact (cr_ok _ (tsh_ok _)).2
  · apply Int32.toInt_inj.mp
    rcases hQ with ⟨l1, v1, m1⟩ | ⟨l1, v1, g1⟩
    · rcases hQ2 with ⟨l2, v2, m2⟩ | ⟨l2, v2, g2⟩
      · rw [v1, v2]
      · omega
    · rcases hQ2 with ⟨l2, v2, m2⟩ | ⟨l2, v2, g2⟩
      · omega
      · rw [v1, v2]
theorem eEnd {a : Int32} : lP rI 124 162 [.int a] true := fun hp hI => by
  obtain ⟨x1, z1, p1, p2, p3, -⟩ := eSp (yt1538 yXx.1) (c := 0) (na := 1) (bl := []) (by decide +kernel) hI.1 (ys := [a]) rfl (fun s hs => by cases hs)
  obtain ⟨x2, z2, q1, q2, q3, -⟩ := eSp (yt1540 yXx.1) (c := 70) (na := 1) (bl := []) (by decide +kernel) p2 (ys := [a]) rfl (fun s hs => by cases hs)
  have hT := xT_of hI.1.1
  have b1 : (0 : Int) ≤ ((xof hp).1 0 1).toInt ∧ ((xof hp).1 0 1).toInt ≤ 400 := hT 0 1 (0, 400) rfl
  obtain ⟨L, hL⟩ : ∃ L : Nat, ((xof hp).1 0 1).toInt = (L : Int) := ⟨((xof hp).1 0 1).toInt.toNat, by omega⟩
  obtain ⟨y, hy, hQ⟩ := fcPE (F := 500) (m := xof hp) (L := L) (a := a) hT hL
  have u := Z124_0 hI.1.1 hy (d := 20) (by decide)
  rw [xW_of] at u
  have u := zCan_u p1 u
  cases u
  have f70 : ∀ j, (xof (xW hp y.2)).1 70 j = (xof hp).1 70 j := fun j => eF p3 (by unfold yinM; rfl)
  have f71 : ∀ j, (xof (xW hp y.2)).1 71 j = (xof hp).1 71 j := fun j => eF p3 (by unfold yinM; rfl)
  have f1 : ∀ j, (xof (xW hp y.2)).1 1 j = (xof hp).1 1 j := fun j => eF p3 (by unfold yinM; rfl)
  obtain ⟨y2, hy2, hQ2⟩ := frPE (F := 500) (m := xof (xW hp y.2)) (L := L) (a := a) (xT_of p2.1) (by rw [f70]; exact hI.2.1.trans hL)
  have u2 := Z162 p2.1 hy2 (d := 20) (by decide)
  rw [xW_of] at u2
  have u2 := zCan_u q1 u2
  cases u2
  refine ⟨y.1, y2.1, _, _, eK0 hI.1.1, eK70 p2.1, p1, p3.1, q1, q3.1, ⟨q2, ?_⟩, fun _ => ?_⟩
  · rcases hQ with ⟨l1, v1, m1⟩ | ⟨l1, l1', v1, g1⟩
    · rcases hQ2 with ⟨l2, v2, m2⟩ | ⟨l2, l2', v2, g2⟩
      · rw [m2, xW_of, m1, xW_of]
        exact hI.2
      · omega
    · rcases hQ2 with ⟨l2, v2, m2⟩ | ⟨l2, l2', v2, g2⟩
      · omega
      · have c01 : (xof (xW (xW hp y.2) y2.2)).1 0 1 = a := (eF q3 rfl).trans ((exo p2.1 rfl).trans (by rw [g1, xu_s]))
        have c08 : (xof (xW (xW hp y.2) y2.2)).1 0 8 = (xof hp).1 0 8 := (eF q3 rfl).trans (eF p3 rfl)
        have d1 : (xof (xW (xW hp y.2) y2.2)).1 70 1 = a := (exo q2.1 rfl).trans (by rw [g2, xu_s])
        have d2 : (xof (xW (xW hp y.2) y2.2)).1 70 2 = (xof hp).1 70 2 := (eF q3 rfl).trans (f70 2)
        refine ⟨by rw [c01, d1], by rw [d2, c08]; exact hI.2.2.1, fun j hj => ?_⟩
        rw [c01] at hj
        rw [show (xof (xW (xW hp y.2) y2.2)).1 1 j = (xof hp).1 1 j from (eF q3 (by unfold yinM; rfl)).trans (f1 j), show (xof (xW (xW hp y.2) y2.2)).1 71 j = (xof hp).1 71 j from (eF q3 (by unfold yinM; rfl)).trans (f71 j)]
        exact hI.2.2.2 j (by omega)
  · rcases hQ with ⟨l1, v1, m1⟩ | ⟨l1, l1', v1, g1⟩
    · rcases hQ2 with ⟨l2, v2, m2⟩ | ⟨l2, l2', v2, g2⟩
      · rw [v1, v2]
      · omega
    · rcases hQ2 with ⟨l2, v2, m2⟩ | ⟨l2, l2', v2, g2⟩
      · omega
      · rw [v1, v2]
theorem eVill : lP rI 125 198 [] false := fun hp hI => by
  obtain ⟨x1, z1, p1, p2, p3, k1, hk1, r1, -, gk1⟩ := eSp (yt1537b yXx.1) (c := 0) (na := 0) (bl := []) (by decide +kernel) hI.1 (ys := []) rfl (fun s hs => by cases hs)
  obtain ⟨x2, z2, q1, q2, q3, k2, hk2, r2, -, gk2⟩ := eSp (yl243 yXx) (c := 70) (na := 0) (bl := []) (by decide +kernel) p2 (ys := []) rfl (fun s hs => by cases hs)
  have t1 : ys1537b.2.2.2.1.all (fun q => decide ((((yc ((0 : Nat) : Int)), (yc ((1 : Nat) : Int)), ((0, yc 0, yc 0) : yV)) : yK) ∈ q.2.2.2.1)) = true := by decide +kernel
  have t2 : ys243.2.2.2.1.all (fun q => decide ((((yc ((70 : Nat) : Int)), (yc ((1 : Nat) : Int)), ((0, yc 0, yc 0) : yV)) : yK) ∈ q.2.2.2.1)) = true := by decide +kernel
  have c01 : ((xof z1).1 0 1).toInt = 0 := eKq gk1 (of_decide_eq_true (List.all_eq_true.mp t1 k1 hk1))
  have d1 : ((xof z2).1 70 1).toInt = 0 := eKq gk2 (of_decide_eq_true (List.all_eq_true.mp t2 k2 hk2))
  have e01 : (xof z2).1 0 1 = (xof z1).1 0 1 := eF q3 rfl
  have e08 : (xof z2).1 0 8 = (xof hp).1 0 8 := (eF q3 rfl).trans (eF p3 rfl)
  have e2 : (xof z2).1 70 2 = (xof hp).1 70 2 := (eF q3 rfl).trans (eF p3 rfl)
  refine ⟨x1, x2, z1, z2, eK0 hI.1.1, eK70 p2.1, p1, p3.1, q1, q3.1, ⟨q2, ?_, ?_, fun j hj => ?_⟩, fun h => by cases h⟩
  · rw [d1, e01, c01]
  · rw [e2, e08]
    exact hI.2.2.1
  · rw [e01, c01] at hj
    omega
theorem eRule : lP rI 126 197 [] true := fun hp hI => by
  obtain ⟨x1, z1, p1, p2, p3, -⟩ := eSp (yl646 yXx) (c := 0) (na := 0) (bl := []) (by decide +kernel) hI.1 (ys := []) rfl (fun s hs => by cases hs)
  obtain ⟨x2, z2, q1, q2, q3, -⟩ := eSp (yl3 yXx) (c := 70) (na := 0) (bl := []) (by decide +kernel) p2 (ys := []) rfl (fun s hs => by cases hs)
  have hT := xT_of hI.1.1
  have b1 : (0 : Int) ≤ ((xof hp).1 0 1).toInt ∧ ((xof hp).1 0 1).toInt ≤ 400 := hT 0 1 (0, 400) rfl
  have b8 : (0 : Int) ≤ ((xof hp).1 0 8).toInt ∧ ((xof hp).1 0 8).toInt ≤ 6 := hT 0 8 (0, 6) rfl
  obtain ⟨n, hn⟩ : ∃ n : Nat, ((xof hp).1 0 1).toInt = (n : Int) := ⟨((xof hp).1 0 1).toInt.toNat, by omega⟩
  obtain ⟨r, hr⟩ : ∃ r : Nat, ((xof hp).1 0 8).toInt = (r : Int) := ⟨((xof hp).1 0 8).toInt.toNat, by omega⟩
  obtain ⟨v, x, k1, -, -, hQ⟩ := kRul (b := fun j => ((xof hp).1 1 j).toInt) (d := 20) hI.1.1 hI.1.2.2.2 (by decide) hn (fun _ _ => rfl)
  have u := zCan_u p1 k1
  cases u
  have f70 : ∀ j, (xof z1).1 70 j = (xof hp).1 70 j := fun j => eF p3 (by unfold yinM; rfl)
  have f71 : ∀ j, (xof z1).1 71 j = (xof hp).1 71 j := fun j => eF p3 (by unfold yinM; rfl)
  have f1 : ∀ j, (xof z1).1 1 j = (xof hp).1 1 j := fun j => eF p3 (by unfold yinM; rfl)
  have N : rN (xof z1) (fun j => ((xof hp).1 1 j).toInt) n := ⟨by rw [f70]; exact hI.2.1.trans hn, by omega, fun j hj => ⟨hT 1 j (0, 255) (eb1 (by omega)), by rw [f71]; exact hI.2.2.2 j (by omega)⟩⟩
  obtain ⟨y, hy, -, hQ2⟩ := R197 (F := 500) (r := r) (Nat.le_refl _) N (xT_of p2.1) (by rw [f70]; exact hI.2.2.1.trans hr) (by omega)
  have u2 := Z197 p2.1 hy (d := 20) (by decide)
  rw [xW_of] at u2
  have u2 := zCan_u q1 u2
  cases u2
  have e01 : (xof (xW z1 y.2)).1 0 1 = (xof z1).1 0 1 := eF q3 rfl
  have e08 : (xof (xW z1 y.2)).1 0 8 = (xof z1).1 0 8 := eF q3 rfl
  have d1 : (xof (xW z1 y.2)).1 70 1 = y.2.1 70 1 := exo q2.1 rfl
  have d2 : (xof (xW z1 y.2)).1 70 2 = y.2.1 70 2 := exo q2.1 rfl
  refine ⟨x1, y.1, _, _, eK0 hI.1.1, eK70 p2.1, p1, p3.1, q1, q3.1, ⟨q2, ?_⟩, fun _ => ?_⟩
  · rcases hQ with ⟨c6, -, c2⟩ | ⟨c6, c1, c2⟩
    · subst c2
      rcases hQ2 with ⟨-, -, m2⟩ | ⟨l2, -⟩
      · rw [m2, xW_of]
        exact hI.2
      · omega
    · rcases hQ2 with ⟨l2, -, -⟩ | ⟨l2, t0, t⟩
      · omega
      · refine ⟨?_, ?_, fun j hj => ?_⟩
        · rw [d1, t0, e01, c1]
          rfl
        · rw [d2, e08]
          rcases c2 with ⟨g, g1, g2, -, g4⟩ | ⟨s, s1, -, s3, -⟩
          · rcases t with ⟨J, g', j1, j2, j3, -, j5⟩ | ⟨J, s', j1, j2, j3, -, j5⟩
            · rw [j5, g4, hr]
            · rw [trun_r j3 J 401 j2 j1] at g1
              cases g1
          · rcases t with ⟨J, g', j1, j2, j3, -, j5⟩ | ⟨J, s', j1, j2, j3, -, j5⟩
            · rw [trun_l J 401 j3 j2 j1] at s1
              cases s1
            · rw [j5, s3, hr]
        · rw [e01, c1] at hj
          have hj : (j : Int) < 0 := hj
          omega
  · rcases hQ with ⟨c6, c1, c2⟩ | ⟨c6, c1, c2⟩
    · rcases hQ2 with ⟨-, m1, m2⟩ | ⟨l2, -⟩
      · rw [c1]
        exact Int32.toInt_inj.mp m1.symm
      · omega
    · rcases hQ2 with ⟨l2, -, -⟩ | ⟨l2, t0, t⟩
      · omega
      · apply Int32.toInt_inj.mp
        rcases c2 with ⟨g, g1, g2, g3, g4⟩ | ⟨s, s1, s2, s3⟩
        · rcases t with ⟨J, g', j1, j2, j3, j4, j5⟩ | ⟨J, s', j1, j2, j3, -, j5⟩
          · rw [trun_l J 401 j3 j2 j1] at g1
            have g1 : g' = g := Sum.inl.inj g1
            rw [g3, j4, g1]
          · rw [trun_r j3 J 401 j2 j1] at g1
            cases g1
        · rcases t with ⟨J, g', j1, j2, j3, -, j5⟩ | ⟨J, s', j1, j2, j3, j4, j5⟩
          · rw [trun_l J 401 j3 j2 j1] at s1
            cases s1
          · rw [s2, j4, hr]
end ETAPE
section EPAIRS
theorem e0_4 {y1 y2 : Int32} : lP rI ys1339.1 ys1342.1 [.int y1, .int y2] false := eP (yt1339 yXx.1) (yt1342 yXx.1) (na := 2) (bl := []) (by decide +kernel) (by decide +kernel) (by decide +kernel) [y1, y2] rfl (fun s hs => by cases hs)
theorem e0_5 {y1 y2 : Int32} : lP rI ys1334.1 ys1337.1 [.int y1, .int y2] false := eP (yt1334 yXx.1) (yt1337 yXx.1) (na := 2) (bl := []) (by decide +kernel) (by decide +kernel) (by decide +kernel) [y1, y2] rfl (fun s hs => by cases hs)
theorem e0_6 {y1 y2 y3 : Int32} : lP rI ys1330.1 ys1332.1 [.int y1, .int y2, .int y3] false := eP (yt1330 yXx.1) (yt1332 yXx.1) (na := 3) (bl := []) (by decide +kernel) (by decide +kernel) (by decide +kernel) [y1, y2, y3] rfl (fun s hs => by cases hs)
theorem e0_7 {y1 y2 : Int32} : lP rI ys1327.1 ys1329.1 [.int y1, .int y2] false := eP (yt1327 yXx.1) (yt1329 yXx) (na := 2) (bl := []) (by decide +kernel) (by decide +kernel) (by decide +kernel) [y1, y2] rfl (fun s hs => by cases hs)
theorem e0_8 {y1 : Int32} : lP rI ys1324.1 ys1326.1 [.int y1] false := eP (yt1324 yXx.1) (yt1326 yXx) (na := 1) (bl := []) (by decide +kernel) (by decide +kernel) (by decide +kernel) [y1] rfl (fun s hs => by cases hs)
theorem e0_9 {y1 : Int32} : lP rI ys1318.1 ys1322.1 [.int y1] false := eP (yt1318 yXx.1) (yt1322 yXx) (na := 1) (bl := []) (by decide +kernel) (by decide +kernel) (by decide +kernel) [y1] rfl (fun s hs => by cases hs)
theorem e0_10 {y1 y2 : Int32} : lP rI ys1314.1 ys1316.1 [.int y1, .int y2] false := eP (yt1314 yXx.1) (yt1316 yXx) (na := 2) (bl := []) (by decide +kernel) (by decide +kernel) (by decide +kernel) [y1, y2] rfl (fun s hs => by cases hs)
theorem e0_11 : lP rI ys1310.1 ys1311.1 [] false := eP (yt1310 yXx.1) (yt1311 yXx) (na := 0) (bl := []) (by decide +kernel) (by decide +kernel) (by decide +kernel) [] rfl (fun s hs => by cases hs)
theorem e0_12 {y1 y2 : Int32} : lP rI ys1306.1 ys1308.1 [.int y1, .int y2] false := eP (yt1306 yXx.1) (yt1308 yXx) (na := 2) (bl := []) (by decide +kernel) (by decide +kernel) (by decide +kernel) [y1, y2] rfl (fun s hs => by cases hs)
theorem e0_13 : lP rI ys1302.1 ys1303.1 [] false := eP (yt1302 yXx.1) (yt1303 yXx) (na := 0) (bl := []) (by decide +kernel) (by decide +kernel) (by decide +kernel) [] rfl (fun s hs => by cases hs)
theorem e0_14 : lP rI ys1298.1 ys246.1 [] false := eP (yt1298 yXx.1) (yl246 yXx) (na := 0) (bl := []) (by decide +kernel) (by decide +kernel) (by decide +kernel) [] rfl (fun s hs => by cases hs)
theorem e0_15 {y1 y2 : Int32} : lP rI ys1293.1 ys1295.1 [.int y1, .int y2] false := eP (yt1293 yXx.1) (yt1295 yXx) (na := 2) (bl := []) (by decide +kernel) (by decide +kernel) (by decide +kernel) [y1, y2] rfl (fun s hs => by cases hs)
theorem e0_16 {y1 y2 y3 y4 : Int32} : lP rI ys1247.1 ys1248.1 [.int y1, .int y2, .int (if y3 = 0 then 0 else 1), .int y4] false := eP (yt1247 yXx.1) (yt1248 yXx.1) (na := 4) (bl := [2]) (by decide +kernel) (by decide +kernel) (by decide +kernel) [y1, y2, (if y3 = 0 then 0 else 1), y4] rfl (fun s hs z hz => by
    have hs : s = 2 := by simpa using hs
    subst hs
    cases hz
    split <;> decide)
theorem e0_17 {y1 : Int32} : lP rI ys1241.1 ys1243.1 [.int y1] false := eP (yt1241 yXx.1) (yt1243 yXx.1) (na := 1) (bl := []) (by decide +kernel) (by decide +kernel) (by decide +kernel) [y1] rfl (fun s hs => by cases hs)
theorem e0_18 {y1 : Int32} : lP rI ys1233.1 ys1235.1 [.int y1] false := eP (yt1233 yXx.1) (yt1235 yXx.1) (na := 1) (bl := []) (by decide +kernel) (by decide +kernel) (by decide +kernel) [y1] rfl (fun s hs => by cases hs)
theorem e0_19 {y1 y2 : Int32} : lP rI ys1225.1 ys1232.1 [.int y1, .int y2] false := eP (yt1225 yXx.1) (yt1232 yXx) (na := 2) (bl := []) (by decide +kernel) (by decide +kernel) (by decide +kernel) [y1, y2] rfl (fun s hs => by cases hs)
theorem e0_20 {y1 : Int32} : lP rI ys1193.1 ys1224.1 [.int y1] false := eP (yt1193 yXx.1) (yt1224 yXx) (na := 1) (bl := []) (by decide +kernel) (by decide +kernel) (by decide +kernel) [y1] rfl (fun s hs => by cases hs)
theorem e0_21 {y1 : Int32} : lP rI ys1089.1 ys1140.1 [.int y1] false := eP (yt1089 yXx.1) (yt1140 yXx.1) (na := 1) (bl := []) (by decide +kernel) (by decide +kernel) (by decide +kernel) [y1] rfl (fun s hs => by cases hs)
theorem e0_22 {y1 : Int32} : lP rI ys1075.1 ys1077.1 [.int y1] false := eP (yt1075 yXx.1) (yt1077 yXx.1) (na := 1) (bl := []) (by decide +kernel) (by decide +kernel) (by decide +kernel) [y1] rfl (fun s hs => by cases hs)
theorem e0_23 {y1 y2 : Int32} : lP rI ys1067.1 ys1.1 [.int y1, .int y2] false := eP (yt1067 yXx.1) (yl1 yXx) (na := 2) (bl := []) (by decide +kernel) (by decide +kernel) (by decide +kernel) [y1, y2] rfl (fun s hs => by cases hs)
theorem e0_24 {y1 : Int32} : lP rI ys1013.1 ys1033.1 [.int y1] false := eP (yt1013 yXx.1) (yt1033 yXx) (na := 1) (bl := []) (by decide +kernel) (by decide +kernel) (by decide +kernel) [y1] rfl (fun s hs => by cases hs)
theorem e0_25 {y1 : Int32} : lP rI ys861.1 ys994.1 [.int y1] false := eP (yt861 yXx.1) (yt994 yXx) (na := 1) (bl := []) (by decide +kernel) (by decide +kernel) (by decide +kernel) [y1] rfl (fun s hs => by cases hs)
theorem e0_26 {y1 : Int32} : lP rI ys1556.1 ys1558.1 [.int y1] false := eP (yt1556 yXx.1) (yt1558 yXx.1) (na := 1) (bl := []) (by decide +kernel) (by decide +kernel) (by decide +kernel) [y1] rfl (fun s hs => by cases hs)
theorem e0_27 {y1 y2 y3 : Int32} : lP rI ys1555.1 ys837.1 [.int y1, .int y2, .int y3] false := eP (yt1555 yXx.1) (yt837 yXx) (na := 3) (bl := []) (by decide +kernel) (by decide +kernel) (by decide +kernel) [y1, y2, y3] rfl (fun s hs => by cases hs)
theorem e0_28 {y1 : Int32} : lP rI ys666.1 ys670.1 [.int y1] false := eP (yt666 yXx.1) (yt670 yXx.1) (na := 1) (bl := []) (by decide +kernel) (by decide +kernel) (by decide +kernel) [y1] rfl (fun s hs => by cases hs)
theorem e0_29 {y1 : Int32} : lP rI ys1560.1 ys7.1 [.int y1] false := eP (yt1560 yXx.1) (yl7 yXx) (na := 1) (bl := []) (by decide +kernel) (by decide +kernel) (by decide +kernel) [y1] rfl (fun s hs => by cases hs)
theorem e0_30 {y1 : Int32} : lP rI ys1559.1 ys8.1 [.int y1] false := eP (yt1559 yXx.1) (yl8 yXx) (na := 1) (bl := []) (by decide +kernel) (by decide +kernel) (by decide +kernel) [y1] rfl (fun s hs => by cases hs)
end EPAIRS
