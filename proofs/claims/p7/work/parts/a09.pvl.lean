/-! village, in pairs. -/
theorem eVillage : lP rI 125 198 [] true := fun hp hI => by
  obtain ⟨x1, z1, p1, p2, p3, -⟩ := eSp (yt1537b yXx.1) (c := 0) (na := 0) (bl := []) (by decide +kernel) hI.1 (ys := []) rfl (fun s hs => by cases hs)
  obtain ⟨x2, z2, q1, q2, q3, k2, hk2, r2, -, gk2⟩ := eSp (yl243 yXx) (c := 70) (na := 0) (bl := []) (by decide +kernel) p2 (ys := []) rfl (fun s hs => by cases hs)
  have t2 : ys243.2.2.2.1.all (fun q => decide ((((yc ((70 : Nat) : Int)), (yc ((1 : Nat) : Int)), ((0, yc 0, yc 0) : yV)) : yK) ∈ q.2.2.2.1)) = true := by decide +kernel
  have d1 : ((xof z2).1 70 1).toInt = 0 := eKq gk2 (of_decide_eq_true (List.all_eq_true.mp t2 k2 hk2))
  have hT := xT_of hI.1.1
  have b1 : (0 : Int) ≤ ((xof hp).1 0 1).toInt ∧ ((xof hp).1 0 1).toInt ≤ 400 := hT 0 1 (0, 400) rfl
  obtain ⟨n, hn⟩ : ∃ n : Nat, ((xof hp).1 0 1).toInt = (n : Int) := ⟨((xof hp).1 0 1).toInt.toNat, by omega⟩
  obtain ⟨v, m', w1, w2, w3⟩ := kVil (b := fun j => ((xof hp).1 1 j).toInt) (d := 20) hI.1.1 (by decide) hn (fun _ _ => rfl)
  have u := zCan_u p1 w1
  cases u
  have c01 : (xof (xW (kB hp) m')).1 0 1 = 0 := (exo p2.1 rfl).trans w2
  have f70 : ∀ j, (xof (xW (kB hp) m')).1 70 j = (xof hp).1 70 j := fun j => eF p3 (by unfold yinM; rfl)
  have f71 : ∀ j, (xof (xW (kB hp) m')).1 71 j = (xof hp).1 71 j := fun j => eF p3 (by unfold yinM; rfl)
  have N : rN (xof (xW (kB hp) m')) (fun j => ((xof hp).1 1 j).toInt) n := ⟨by rw [f70]; exact hI.2.1.trans hn, by omega, fun j hj => ⟨hT 1 j (0, 255) (eb1 (by omega)), by rw [f71]; exact hI.2.2.2 j (by omega)⟩⟩
  obtain ⟨y, hy, hQ⟩ := rV198 (F := 500) (Nat.le_refl _) N (xT_of p2.1)
  have u2 := Z198 p2.1 hy (d := 20) (by decide)
  rw [xW_of] at u2
  have u2 := zCan_u q1 u2
  cases u2
  have e01 : (xof (xW (xW (kB hp) m') y.2)).1 0 1 = (xof (xW (kB hp) m')).1 0 1 := eF q3 rfl
  have e08 : (xof (xW (xW (kB hp) m') y.2)).1 0 8 = (xof hp).1 0 8 := (eF q3 rfl).trans (eF p3 rfl)
  have e2 : (xof (xW (xW (kB hp) m') y.2)).1 70 2 = (xof hp).1 70 2 := (eF q3 rfl).trans (f70 2)
  refine ⟨x1, y.1, _, _, eK0 hI.1.1, eK70 p2.1, p1, p3.1, q1, q3.1, ⟨q2, ?_, ?_, fun j hj => ?_⟩, fun _ => ?_⟩
  · rw [d1, e01, c01]
    rfl
  · rw [e2, e08]
    exact hI.2.2.1
  · rw [e01, c01] at hj
    have hj : (j : Int) < 0 := hj
    omega
  · apply Int32.toInt_inj.mp
    rcases w3 with ⟨g, g1, g2, -⟩ | ⟨s, g1, g2, -⟩
    · rcases hQ with ⟨g', h1, -, h2, -⟩ | ⟨s', h1, -⟩
      · rw [g1] at h1
        have h1 : g = g' := Sum.inl.inj h1
        rw [g2, h2, h1]
      · rw [g1] at h1
        cases h1
    · rcases hQ with ⟨g', h1, -⟩ | ⟨s', h1, h2, -⟩
      · rw [g1] at h1
        cases h1
      · rw [g1] at h1
        have h1 : s = s' := Sum.inr.inj h1
        rw [g2, h2, h1]
