/-! The invariant: what it rests on, and that it holds at the start. -/
theorem yleM_in {M N : yM} (h : yleM M N = true) {i : Nat} {j : Int} (k : yinM M i j = true) : yinM N i j = true := by
  cases e : yinM N i j with
  | true => rfl
  | false =>
    rw [yleM_ok h e] at k
    cases k
theorem yEA_F {A : zHp → Prop} (hA : yEF A yFA) : yEF (yEA A) yFP := by
  intro a b h e hf
  have one : ∀ {c j : Nat}, yinM yFP c (j : Int) = true → yinM yFP c ((j + 2 : Nat) : Int) = true → yP a c j → yP b c j := by
    intro c j k1 k2 hP x y e1 e2 e3
    rw [hf _ _ k1] at e1
    rw [hf _ _ k2] at e2
    exact hP x y e1 e2 e3
  have all : ∀ (c : Nat) (j : Int), c = 81 ∨ c = 85 → yinM yFP c j = true := by
    intro c j hc
    unfold yinM
    rw [List.any_eq_true]
    rcases hc with rfl | rfl
    · exact ⟨(81, 81, 1000), List.mem_of_getElem? (i := 5) rfl, rfl⟩
    · exact ⟨(85, 85, 1000), List.mem_of_getElem? (i := 8) rfl, rfl⟩
  refine ⟨⟨one (by decide) (by decide) h.1.1, one (by decide) (by decide) h.1.2.1, fun k hk => one (all _ _ (Or.inl rfl)) (all _ _ (Or.inl rfl)) (h.1.2.2.1 k hk), fun k hk => one (all _ _ (Or.inr rfl)) (all _ _ (Or.inr rfl)) (h.1.2.2.2 k hk)⟩, hA a b h.2 e (fun i j k => hf i j (yleM_in (by decide) k))⟩
def yz2 (c j : Nat) : Bool := match yrd hpC c ((j + 2 : Nat) : Int) with
  | some (.int y) => y == 0
  | _ => false
theorem yz2_ok {c j : Nat} (h : yz2 c j = true) : yP hpC c j := by
  intro x y e1 e2 e3
  unfold yz2 at h
  rw [e2] at h
  have : y = 0 := by simpa using h
  rw [this] at e3
  exact absurd e3 (by decide)
theorem hpC_r1 : (yz2 80 0 && yz2 84 0) = true := by decide +kernel
theorem hpC_r2 : (List.range 20).all (fun k => yz2 81 (124 * k)) = true := by decide +kernel
theorem hpC_r3 : (List.range 4).all (fun k => yz2 85 (148 * k)) = true := by decide +kernel
theorem hpC_E1 : yE1 hpC := by
  have h := hpC_r1
  rw [Bool.and_eq_true] at h
  exact ⟨yz2_ok h.1, yz2_ok h.2, fun k hk => yz2_ok (List.all_eq_true.mp hpC_r2 k (List.mem_range.mpr hk)), fun k hk => yz2_ok (List.all_eq_true.mp hpC_r3 k (List.mem_range.mpr hk))⟩
