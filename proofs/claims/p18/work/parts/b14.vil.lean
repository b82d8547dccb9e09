/-! feed, end, rule, village over the relation. -/
theorem eR {cm : Bool} {n1 n2 : Nat} {sp1 sp2 : ySp} (T1 : yTs (yEA yAr) n1 sp1) (T2 : yTs (yEA yAr) n2 sp2) {na : Nat} {bl : List Nat} (c1 : (eOk 0 na bl sp1.2.2.1 && (decide (n1 ≤ 20) && (decide (na + 1 ≤ sp1.2.1) && sp1.2.2.2.1.all eQok))) = true) (c2 : (eOk 70 na bl sp2.2.2.1 && (decide (n2 ≤ 20) && (decide (na + 1 ≤ sp2.2.1) && sp2.2.2.2.1.all eQok))) = true) (hN : (ydj sp1.2.2.2.2 rMM && ydj sp2.2.2.2.2 rMM) = true) (ys : List Int32) (hl : ys.length = na) (hb : ∀ s ∈ bl, ∀ y, ys[s]? = some y → 0 ≤ y.toInt ∧ y.toInt ≤ 1) (P : lP rI sp1.1 sp2.1 (ys.map .int) cm) : lP MI sp1.1 sp2.1 (ys.map .int) cm := fun hp hI => by
  rw [Bool.and_eq_true] at hN
  obtain ⟨x1, x2, z1, z2, a1, a2, a3, a4, a5, a6, a7, a8⟩ := P hp hI.1
  obtain ⟨x3, z3, b1, b2, b3, -⟩ := eSp T1 c1 hI.1.1 hl hb
  have u := zCan_u a3 b1
  cases u
  obtain ⟨x4, z4, d1, d2, d3, -⟩ := eSp T2 c2 b2 hl hb
  have u := zCan_u a5 d1
  cases u
  exact ⟨x1, x2, z1, z2, a1, a2, a3, a4, a5, a6, ⟨a7, rMx_F d3 hN.2 (rMx_F b3 hN.1 hI.2)⟩, a8⟩
theorem m0 {y1 y2 y3 y4 y5 : Int32} : lP MI 122 161 [.int y1, .int y2, .int y3, .int y4, .int y5] true := eR (yt1542 yXx.1) (yt1548 yXx.1) (na := 5) (bl := []) (by decide +kernel) (by decide +kernel) (by decide +kernel) [y1, y2, y3, y4, y5] rfl (fun s hs => by cases hs) eFeed
theorem m1 {y1 : Int32} : lP MI 124 162 [.int y1] true := eR (yt1538 yXx.1) (yt1540 yXx.1) (na := 1) (bl := []) (by decide +kernel) (by decide +kernel) (by decide +kernel) [y1] rfl (fun s hs => by cases hs) eEnd
theorem m3 : lP MI 126 197 [] true := eR (yl646 yXx) (yl3 yXx) (na := 0) (bl := []) (by decide +kernel) (by decide +kernel) (by decide +kernel) [] rfl (fun s hs => by cases hs) eRule
/-- where village leaves alone -/
abbrev rMV : yM := [(16, 35, 1000), (37, 42, 1000), (43, 43, 1000), (70, 70, 23), (81, 81, 1000), (85, 87, 1000)]
theorem m2 : lP MI 125 198 [] true := fun hp hI => by
  obtain ⟨x1, x2, z1, z2, a1, a2, a3, a4, a5, a6, a7, a8⟩ := eVillage hp hI.1
  refine ⟨x1, x2, z1, z2, a1, a2, a3, a4, a5, a6, ⟨a7, ?_⟩, a8⟩
  obtain ⟨x3, z3, p1, p2, p3, -⟩ := eSp (yt1537b yXx.1) (c := 0) (na := 0) (bl := []) (by decide +kernel) hI.1.1 (ys := []) rfl (fun s hs => by cases hs)
  have u := zCan_u a3 p1
  cases u
  obtain ⟨x4, z4, q1, q2, q3, -⟩ := eSp (yl243 yXx) (c := 70) (na := 0) (bl := []) (by decide +kernel) p2 (ys := []) rfl (fun s hs => by cases hs)
  have u := zCan_u a5 q1
  cases u
  have hT := xT_of hI.1.1.1
  have b1 : (0 : Int) ≤ ((xof hp).1 0 1).toInt ∧ ((xof hp).1 0 1).toInt ≤ 400 := hT 0 1 (0, 400) rfl
  obtain ⟨n, hn⟩ : ∃ n : Nat, ((xof hp).1 0 1).toInt = (n : Int) := ⟨((xof hp).1 0 1).toInt.toNat, by omega⟩
  obtain ⟨v, m', w1, w2, w3⟩ := kVil (b := fun j => ((xof hp).1 1 j).toInt) (d := 20) hI.1.1.1 (by decide) hn (fun _ _ => rfl)
  have u := zCan_u p1 w1
  cases u
  have f70 : ∀ j, (xof (xW (kB hp) m')).1 70 j = (xof hp).1 70 j := fun j => eF p3 (by unfold yinM; rfl)
  have f71 : ∀ j, (xof (xW (kB hp) m')).1 71 j = (xof hp).1 71 j := fun j => eF p3 (by unfold yinM; rfl)
  have f80 : (xof (xW (kB hp) m')).1 80 = (xof hp).1 80 := funext fun j => eF p3 (by unfold yinM; rfl)
  have N : rN (xof (xW (kB hp) m')) (fun j => ((xof hp).1 1 j).toInt) n := ⟨by rw [f70]; exact hI.1.2.1.trans hn, by omega, fun j hj => ⟨hT 1 j (0, 255) (eb1 (by omega)), by rw [f71]; exact hI.1.2.2.2 j (by omega)⟩⟩
  obtain ⟨y, hy, hQ⟩ := rV198 (F := 500) (Nat.le_refl _) N (xT_of p2.1)
  have u2 := Z198 p2.1 hy (d := 20) (by decide)
  rw [xW_of] at u2
  have u2 := zCan_u q1 u2
  cases u2
  have M := hI.2
  have k1 : ydj ys1537b.2.2.2.2 rMV = true := by decide +kernel
  have k2 : ydj ys243.2.2.2.2 rMV = true := by decide +kernel
  have g : ∀ i j : Nat, yinM rMV i (j : Int) = true → (xof (xW (xW (kB hp) m') y.2)).1 i j = (xof hp).1 i j := fun i j hj => (eF q3 (ydj_ok k2 i j hj)).trans (eF p3 (ydj_ok k1 i j hj))
  have HB := kB_H hI.1.1.1
  have e80 : (xof (xW (xW (kB hp) m') y.2)).1 80 = y.2.1 80 := xof_t p2.1 (k := 0) (n := 148) (by decide)
  have e25 : (xof (xW (xW (kB hp) m') y.2)).1 70 25 = y.2.1 70 25 := xof_f p2.1 (a := 11) (by decide)
  have e10 : (xof (xW (xW (kB hp) m') y.2)).1 10 = m'.1 10 := (funext fun j => eF q3 (by unfold yinM; rfl)).trans (xof_t HB (k := 0) (n := 114) (by decide))
  have e14 : ∀ j, j = 1 ∨ j = 2 → (xof (xW (xW (kB hp) m') y.2)).1 14 j = m'.1 14 j := fun j hj => (eF q3 (by unfold yinM; rfl)).trans (by
    rcases hj with rfl | rfl
    · exact xof_f HB (a := 2) (by decide)
    · exact xof_f HB (a := 2) (by decide))
  have gr : ∀ a b : Nat, (a, b, 1000) ∈ rMV → ∀ i, a ≤ i → i ≤ b → (xof (xW (xW (kB hp) m') y.2)).1 i = (xof hp).1 i := fun a b h i h1 h2 => funext fun j => g i j (yin_r h h1 h2)
  rcases w3 with ⟨g0, g1, g2, g3, g4⟩ | ⟨s, g1, g2, g3, g4, g5⟩
  · rcases hQ with ⟨g', h1, -, h2, h3, h4⟩ | ⟨s', h1, -⟩
    · have r80 : (xof (xW (xW (kB hp) m') y.2)).1 80 = (xof hp).1 80 := e80.trans ((funext h3).trans f80)
      exact rMx_c r80 (e10.trans g3) ⟨(e14 1 (Or.inl rfl)).trans (by rw [g4]), (e14 2 (Or.inr rfl)).trans (by rw [g4])⟩ (e25.trans (h4.trans (f70 25))) (gr 81 81 (by decide) 81 (by decide) (by decide)) (fun a l1 l2 => gr 16 35 (by decide) a l1 (by omega)) (fun a l1 l2 => gr 37 42 (by decide) a l1 (by omega)) (gr 37 42 (by decide) 41 (by decide) (by decide)) (gr 37 42 (by decide) 42 (by decide) (by decide)) (gr 85 87 (by decide) 85 (by decide) (by decide)) (gr 85 87 (by decide) 86 (by decide) (by decide)) (gr 85 87 (by decide) 87 (by decide) (by decide)) (g 70 23 rfl) (g 43 0 rfl) M
    · rw [g1] at h1
      cases h1
  · rcases hQ with ⟨g', h1, -⟩ | ⟨s', h1, h2, h3, h4⟩
    · rw [g1] at h1
      cases h1
    · rw [g1] at h1
      have h1 : s = s' := Sum.inr.inj h1
      subst h1
      have J := vJ_r 42 (Or.inl ⟨rfl, rfl⟩) g1
      obtain ⟨-, ⟨n0, h0, ⟨l1, l2⟩, ⟨o1, o2, o3⟩, H⟩, Mi, Mx⟩ := M
      have b14 := xT_of p2.1 14 1 (0, 19) rfl
      have z1 : (xof (xW (kB hp) m')).1 14 1 = m'.1 14 1 := xof_f HB (a := 2) (by decide)
      have R0 : R32 (y.2.1 80) (m'.1 12) := by
        have e : ∀ j, j < 148 → sI (y.2.1 80) j = vdn s j := h3
        obtain ⟨r1, r2, r3, r4, r5, r6⟩ := g4
        refine ⟨fun j hj => ?_, fun t w ht hw => ?_, fun w k hw hk => ?_, fun w hw l => ?_, fun a d ha hd => ?_, fun a d ha hd => ?_⟩
        · rw [e j (by omega)]
          exact r1 j hj
        · rw [e _ (by omega)]
          exact r2 t w ht hw
        · rw [e _ (by omega)]
          exact r3 w k hw hk
        · rw [e 3 (by omega)] at l
          rw [e _ (by omega)]
          exact r4 w hw l
        · rw [e _ (by omega)]
          exact r5 a d ha hd
        · rw [e _ (by omega)]
          exact r6 a d ha hd
      refine ⟨⟨?_, ?_⟩, ⟨(m'.1 14 1).toInt.toNat, 0, ⟨?_, by omega⟩, ⟨?_, ?_, ?_⟩, fun j hj => absurd hj (Nat.not_lt_zero j)⟩, fun a ha => ?_, ?_⟩
      · rw [e80, e10]
        exact R_c R0 (fun _ _ => rfl) (fun j hj => g3 j hj)
      · rw [e80]
        refine ⟨I_vj J h3, ?_⟩
        rw [h3 4 (by omega), if_neg (by omega), J.1.2.2.2.2]
        decide
      · rw [z1] at b14
        have b14 : (0 : Int) ≤ (m'.1 14 1).toInt ∧ (m'.1 14 1).toInt ≤ 19 := b14
        omega
      · rw [e14 1 (Or.inl rfl)]
        rw [z1] at b14
        have b14 : (0 : Int) ≤ (m'.1 14 1).toInt ∧ (m'.1 14 1).toInt ≤ 19 := b14
        exact i32n (by omega)
      · rw [e14 2 (Or.inr rfl), g5]
        rfl
      · rw [e25, h4]
        rfl
      · rw [gr 85 87 (by decide) 87 (by decide) (by decide), gr 37 42 (by decide) 42 (by decide) (by decide), gr 85 87 (by decide) 85 (by decide) (by decide), gr 85 87 (by decide) 86 (by decide) (by decide), gr 37 42 (by decide) 41 (by decide) (by decide), gr 37 42 (by decide) (37 + a) (by omega) (by omega)]
        exact Mi a ha
      · rw [g 70 23 rfl, g 43 0 rfl]
        exact Mx
