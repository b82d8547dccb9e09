/-! All that was left to do by hand; the start; the claim's run. -/
theorem hpC_75 : (List.range 6).all (fun t => (xof hpC).1 75 t == 0) = true := by decide +kernel
theorem hpC_08 : ((xof hpC).1 0 8 == 0) = true := by decide +kernel
theorem hpC_A : yAr hpC := by
  refine ⟨fun t c ht hc => ?_, ?_⟩
  · exfalso
    have h := List.all_eq_true.mp hpC_75 t (List.mem_range.mpr ht)
    have h := eq_of_beq h
    rw [h] at hc
    have hc : (c : Int) < 0 := hc
    omega
  · rw [eq_of_beq hpC_08, hpC_n]
    rfl
theorem yXx : yXt (yEA yAr) := by
  refine ⟨yEA_F yAr_F, fun q hq => ?_⟩
  rcases List.mem_cons.mp hq with rfl | hq
  · exact yact_s
  rcases List.mem_cons.mp hq with rfl | hq
  · exact ycam_s
  rcases List.mem_cons.mp hq with rfl | hq
  · exact ysum_s
  rcases List.mem_cons.mp hq with rfl | hq
  · exact yrule_r
  rcases List.mem_cons.mp hq with rfl | hq
  · exact yL4 yAr_F
  rcases List.mem_cons.mp hq with rfl | hq
  · exact yL5 yAr_F
  rcases List.mem_cons.mp hq with rfl | hq
  · exact yL7 yAr_F
  rcases List.mem_cons.mp hq with rfl | hq
  · exact yL8 yAr_F
  rcases List.mem_cons.mp hq with rfl | hq
  · exact yL243 yAr_F
  rcases List.mem_cons.mp hq with rfl | hq
  · exact yundo yAr_F
  rcases List.mem_cons.mp hq with rfl | hq
  · exact yrul_s
  cases hq
