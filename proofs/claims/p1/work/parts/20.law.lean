/-! p1: the law by its kinds of calls. -/
theorem r_scr {xs : Nat → Int32} {d nL : Nat} {rt : Option FieldType} {cd : List (Option zEn)} {hp : zHp} {r : zRe} {pc len a b n : Nat} {lv : List (Nat × Value)} {rest : List Value} {v0 : Value} {j : Int32} (hq : zg cd pc = some (.iaload, len, a, b, v0)) (hj : ¬ (j < 0 ∨ 6 ≤ j.toNatClampNeg)) (hn : j.toNatClampNeg = n) (K : zR (some (6, xs)) d nL rt cd (pc + 1, lv, .int (xs n) :: rest) hp r) : zR (some (6, xs)) d nL rt cd (pc, lv, .int j :: .ref 1000 :: rest) hp r := by
  refine r_s hq (fun call => ?_) (Nat.le_refl _) K
  show zIald ztb (some (6, xs)) (pc, lv, .int j :: .ref 1000 :: rest) hp = _
  unfold zIald zn
  dsimp only
  rw [if_neg (by decide)]
  show (if ¬ (j < 0 ∨ 6 ≤ j.toNatClampNeg) then some (Sum.inl ((pc + 1, lv, .int (xs j.toNatClampNeg) :: rest), hp)) else none) = _
  rw [if_pos hj, hn]
theorem r_alen {xs : Nat → Int32} {L d nL : Nat} {rt : Option FieldType} {cd : List (Option zEn)} {hp : zHp} {r : zRe} {pc len a b : Nat} {lv : List (Nat × Value)} {rest : List Value} {v0 : Value} (hq : zg cd pc = some (.arraylength, len, a, b, v0)) (K : zR (some (L, xs)) d nL rt cd (pc + 1, lv, .int (Int32.ofNat L) :: rest) hp r) : zR (some (L, xs)) d nL rt cd (pc, lv, .ref 1000 :: rest) hp r := by
  refine r_s hq (fun call => ?_) (Nat.le_refl _) K
  show zAlen ztb (some (L, xs)) (pc, lv, .ref 1000 :: rest) hp = _
  unfold zAlen zn
  dsimp only
  rw [if_neg (by decide)]
  rfl
theorem zLk_0 {hp : zHp} (F : zFr0 hp) (xs : Nat → Int32) : ∃ hp2 : zHp, hp2.1 ≤ 2000 ∧ ∀ r, zR (some (6, xs)) 20 4 ret zcL (1041, [(3, .int 0), (2, .ref 70), (1, .ref 0), (0, .ref 1000)], []) hp2 r → zR (some (6, xs)) 20 4 ret zcL (172, [(3, .int 0), (2, .ref 70), (1, .ref 0), (0, .ref 1000)], []) hp r := by
  obtain ⟨v, hp1, hp2, k1, m1, q1, k2, m2, mm⟩ := zK_0 F (xs 1) (xs 2) (xs 3) (xs 4) (xs 5)
  refine ⟨hp2, mm, fun r K => ?_⟩
  refine r_s (fr' := (173, [(3, .int 0), (2, .ref 70), (1, .ref 0), (0, .ref 1000)], [.ref 0])) (hp' := hp) zfL_172 (fun _ => rfl) (Nat.le_refl _) ?_
  refine r_s (fr' := (174, [(3, .int 0), (2, .ref 70), (1, .ref 0), (0, .ref 1000)], [.ref 1000, .ref 0])) (hp' := hp) zfL_173 (fun _ => rfl) (Nat.le_refl _) ?_
  refine r_s (fr' := (175, [(3, .int 0), (2, .ref 70), (1, .ref 0), (0, .ref 1000)], [.int 0, .ref 1000, .ref 0])) (hp' := hp) zfL_174 (fun _ => rfl) (Nat.le_refl _) ?_
  refine r_s (fr' := (176, [(3, .int 0), (2, .ref 70), (1, .ref 0), (0, .ref 1000)], [.int 1, .int 0, .ref 1000, .ref 0])) (hp' := hp) zfL_175 (fun _ => rfl) (Nat.le_refl _) ?_
  refine r_s (fr' := (177, [(3, .int 0), (2, .ref 70), (1, .ref 0), (0, .ref 1000)], [.int (0 + 1), .ref 1000, .ref 0])) (hp' := hp) zfL_176 (fun _ => rfl) (Nat.le_refl _) ?_
  refine r_scr (n := 1) zfL_177 (by decide) (by decide) ?_
  show zR _ _ _ _ _ (178, [(3, .int 0), (2, .ref 70), (1, .ref 0), (0, .ref 1000)], [.int (xs 1), .ref 0]) hp _
  refine r_s (fr' := (179, [(3, .int 0), (2, .ref 70), (1, .ref 0), (0, .ref 1000)], [.ref 1000, .int (xs 1), .ref 0])) (hp' := hp) zfL_178 (fun _ => rfl) (Nat.le_refl _) ?_
  refine r_s (fr' := (180, [(3, .int 0), (2, .ref 70), (1, .ref 0), (0, .ref 1000)], [.int 0, .ref 1000, .int (xs 1), .ref 0])) (hp' := hp) zfL_179 (fun _ => rfl) (Nat.le_refl _) ?_
  refine r_s (fr' := (181, [(3, .int 0), (2, .ref 70), (1, .ref 0), (0, .ref 1000)], [.int 2, .int 0, .ref 1000, .int (xs 1), .ref 0])) (hp' := hp) zfL_180 (fun _ => rfl) (Nat.le_refl _) ?_
  refine r_s (fr' := (182, [(3, .int 0), (2, .ref 70), (1, .ref 0), (0, .ref 1000)], [.int (0 + 2), .ref 1000, .int (xs 1), .ref 0])) (hp' := hp) zfL_181 (fun _ => rfl) (Nat.le_refl _) ?_
  refine r_scr (n := 2) zfL_182 (by decide) (by decide) ?_
  show zR _ _ _ _ _ (183, [(3, .int 0), (2, .ref 70), (1, .ref 0), (0, .ref 1000)], [.int (xs 2), .int (xs 1), .ref 0]) hp _
  refine r_s (fr' := (184, [(3, .int 0), (2, .ref 70), (1, .ref 0), (0, .ref 1000)], [.ref 1000, .int (xs 2), .int (xs 1), .ref 0])) (hp' := hp) zfL_183 (fun _ => rfl) (Nat.le_refl _) ?_
  refine r_s (fr' := (185, [(3, .int 0), (2, .ref 70), (1, .ref 0), (0, .ref 1000)], [.int 0, .ref 1000, .int (xs 2), .int (xs 1), .ref 0])) (hp' := hp) zfL_184 (fun _ => rfl) (Nat.le_refl _) ?_
  refine r_s (fr' := (186, [(3, .int 0), (2, .ref 70), (1, .ref 0), (0, .ref 1000)], [.int 3, .int 0, .ref 1000, .int (xs 2), .int (xs 1), .ref 0])) (hp' := hp) zfL_185 (fun _ => rfl) (Nat.le_refl _) ?_
  refine r_s (fr' := (187, [(3, .int 0), (2, .ref 70), (1, .ref 0), (0, .ref 1000)], [.int (0 + 3), .ref 1000, .int (xs 2), .int (xs 1), .ref 0])) (hp' := hp) zfL_186 (fun _ => rfl) (Nat.le_refl _) ?_
  refine r_scr (n := 3) zfL_187 (by decide) (by decide) ?_
  show zR _ _ _ _ _ (188, [(3, .int 0), (2, .ref 70), (1, .ref 0), (0, .ref 1000)], [.int (xs 3), .int (xs 2), .int (xs 1), .ref 0]) hp _
  refine r_s (fr' := (189, [(3, .int 0), (2, .ref 70), (1, .ref 0), (0, .ref 1000)], [.ref 1000, .int (xs 3), .int (xs 2), .int (xs 1), .ref 0])) (hp' := hp) zfL_188 (fun _ => rfl) (Nat.le_refl _) ?_
  refine r_s (fr' := (190, [(3, .int 0), (2, .ref 70), (1, .ref 0), (0, .ref 1000)], [.int 0, .ref 1000, .int (xs 3), .int (xs 2), .int (xs 1), .ref 0])) (hp' := hp) zfL_189 (fun _ => rfl) (Nat.le_refl _) ?_
  refine r_s (fr' := (191, [(3, .int 0), (2, .ref 70), (1, .ref 0), (0, .ref 1000)], [.int 4, .int 0, .ref 1000, .int (xs 3), .int (xs 2), .int (xs 1), .ref 0])) (hp' := hp) zfL_190 (fun _ => rfl) (Nat.le_refl _) ?_
  refine r_s (fr' := (192, [(3, .int 0), (2, .ref 70), (1, .ref 0), (0, .ref 1000)], [.int (0 + 4), .ref 1000, .int (xs 3), .int (xs 2), .int (xs 1), .ref 0])) (hp' := hp) zfL_191 (fun _ => rfl) (Nat.le_refl _) ?_
  refine r_scr (n := 4) zfL_192 (by decide) (by decide) ?_
  show zR _ _ _ _ _ (193, [(3, .int 0), (2, .ref 70), (1, .ref 0), (0, .ref 1000)], [.int (xs 4), .int (xs 3), .int (xs 2), .int (xs 1), .ref 0]) hp _
  refine r_s (fr' := (194, [(3, .int 0), (2, .ref 70), (1, .ref 0), (0, .ref 1000)], [.ref 1000, .int (xs 4), .int (xs 3), .int (xs 2), .int (xs 1), .ref 0])) (hp' := hp) zfL_193 (fun _ => rfl) (Nat.le_refl _) ?_
  refine r_s (fr' := (195, [(3, .int 0), (2, .ref 70), (1, .ref 0), (0, .ref 1000)], [.int 0, .ref 1000, .int (xs 4), .int (xs 3), .int (xs 2), .int (xs 1), .ref 0])) (hp' := hp) zfL_194 (fun _ => rfl) (Nat.le_refl _) ?_
  refine r_s (fr' := (196, [(3, .int 0), (2, .ref 70), (1, .ref 0), (0, .ref 1000)], [.int 5, .int 0, .ref 1000, .int (xs 4), .int (xs 3), .int (xs 2), .int (xs 1), .ref 0])) (hp' := hp) zfL_195 (fun _ => rfl) (Nat.le_refl _) ?_
  refine r_s (fr' := (197, [(3, .int 0), (2, .ref 70), (1, .ref 0), (0, .ref 1000)], [.int (0 + 5), .ref 1000, .int (xs 4), .int (xs 3), .int (xs 2), .int (xs 1), .ref 0])) (hp' := hp) zfL_196 (fun _ => rfl) (Nat.le_refl _) ?_
  refine r_scr (n := 5) zfL_197 (by decide) (by decide) ?_
  show zR _ _ _ _ _ (198, [(3, .int 0), (2, .ref 70), (1, .ref 0), (0, .ref 1000)], [.int (xs 5), .int (xs 4), .int (xs 3), .int (xs 2), .int (xs 1), .ref 0]) hp _
  refine r_call (ix := 0) (as := [.int (xs 1), .int (xs 2), .int (xs 3), .int (xs 4), .int (xs 5)]) (rest := []) (rv := some (.int v)) (hp' := hp1) zfL_198 har122 rfl rfl rfl (hk0 F) (Nat.le_of_ble_eq_true rfl) k1 m1 ?_
  show zR _ _ _ _ _ (201, [(3, .int 0), (2, .ref 70), (1, .ref 0), (0, .ref 1000)], [.int v]) hp1 _
  refine r_s (fr' := (202, [(3, .int 0), (2, .ref 70), (1, .ref 0), (0, .ref 1000)], [.ref 70, .int v])) (hp' := hp1) zfL_201 (fun _ => rfl) (Nat.le_refl _) ?_
  refine r_s (fr' := (203, [(3, .int 0), (2, .ref 70), (1, .ref 0), (0, .ref 1000)], [.ref 1000, .ref 70, .int v])) (hp' := hp1) zfL_202 (fun _ => rfl) (Nat.le_refl _) ?_
  refine r_s (fr' := (204, [(3, .int 0), (2, .ref 70), (1, .ref 0), (0, .ref 1000)], [.int 0, .ref 1000, .ref 70, .int v])) (hp' := hp1) zfL_203 (fun _ => rfl) (Nat.le_refl _) ?_
  refine r_s (fr' := (205, [(3, .int 0), (2, .ref 70), (1, .ref 0), (0, .ref 1000)], [.int 1, .int 0, .ref 1000, .ref 70, .int v])) (hp' := hp1) zfL_204 (fun _ => rfl) (Nat.le_refl _) ?_
  refine r_s (fr' := (206, [(3, .int 0), (2, .ref 70), (1, .ref 0), (0, .ref 1000)], [.int (0 + 1), .ref 1000, .ref 70, .int v])) (hp' := hp1) zfL_205 (fun _ => rfl) (Nat.le_refl _) ?_
  refine r_scr (n := 1) zfL_206 (by decide) (by decide) ?_
  show zR _ _ _ _ _ (207, [(3, .int 0), (2, .ref 70), (1, .ref 0), (0, .ref 1000)], [.int (xs 1), .ref 70, .int v]) hp1 _
  refine r_s (fr' := (208, [(3, .int 0), (2, .ref 70), (1, .ref 0), (0, .ref 1000)], [.ref 1000, .int (xs 1), .ref 70, .int v])) (hp' := hp1) zfL_207 (fun _ => rfl) (Nat.le_refl _) ?_
  refine r_s (fr' := (209, [(3, .int 0), (2, .ref 70), (1, .ref 0), (0, .ref 1000)], [.int 0, .ref 1000, .int (xs 1), .ref 70, .int v])) (hp' := hp1) zfL_208 (fun _ => rfl) (Nat.le_refl _) ?_
  refine r_s (fr' := (210, [(3, .int 0), (2, .ref 70), (1, .ref 0), (0, .ref 1000)], [.int 2, .int 0, .ref 1000, .int (xs 1), .ref 70, .int v])) (hp' := hp1) zfL_209 (fun _ => rfl) (Nat.le_refl _) ?_
  refine r_s (fr' := (211, [(3, .int 0), (2, .ref 70), (1, .ref 0), (0, .ref 1000)], [.int (0 + 2), .ref 1000, .int (xs 1), .ref 70, .int v])) (hp' := hp1) zfL_210 (fun _ => rfl) (Nat.le_refl _) ?_
  refine r_scr (n := 2) zfL_211 (by decide) (by decide) ?_
  show zR _ _ _ _ _ (212, [(3, .int 0), (2, .ref 70), (1, .ref 0), (0, .ref 1000)], [.int (xs 2), .int (xs 1), .ref 70, .int v]) hp1 _
  refine r_s (fr' := (213, [(3, .int 0), (2, .ref 70), (1, .ref 0), (0, .ref 1000)], [.ref 1000, .int (xs 2), .int (xs 1), .ref 70, .int v])) (hp' := hp1) zfL_212 (fun _ => rfl) (Nat.le_refl _) ?_
  refine r_s (fr' := (214, [(3, .int 0), (2, .ref 70), (1, .ref 0), (0, .ref 1000)], [.int 0, .ref 1000, .int (xs 2), .int (xs 1), .ref 70, .int v])) (hp' := hp1) zfL_213 (fun _ => rfl) (Nat.le_refl _) ?_
  refine r_s (fr' := (215, [(3, .int 0), (2, .ref 70), (1, .ref 0), (0, .ref 1000)], [.int 3, .int 0, .ref 1000, .int (xs 2), .int (xs 1), .ref 70, .int v])) (hp' := hp1) zfL_214 (fun _ => rfl) (Nat.le_refl _) ?_
  refine r_s (fr' := (216, [(3, .int 0), (2, .ref 70), (1, .ref 0), (0, .ref 1000)], [.int (0 + 3), .ref 1000, .int (xs 2), .int (xs 1), .ref 70, .int v])) (hp' := hp1) zfL_215 (fun _ => rfl) (Nat.le_refl _) ?_
  refine r_scr (n := 3) zfL_216 (by decide) (by decide) ?_
  show zR _ _ _ _ _ (217, [(3, .int 0), (2, .ref 70), (1, .ref 0), (0, .ref 1000)], [.int (xs 3), .int (xs 2), .int (xs 1), .ref 70, .int v]) hp1 _
  refine r_s (fr' := (218, [(3, .int 0), (2, .ref 70), (1, .ref 0), (0, .ref 1000)], [.ref 1000, .int (xs 3), .int (xs 2), .int (xs 1), .ref 70, .int v])) (hp' := hp1) zfL_217 (fun _ => rfl) (Nat.le_refl _) ?_
  refine r_s (fr' := (219, [(3, .int 0), (2, .ref 70), (1, .ref 0), (0, .ref 1000)], [.int 0, .ref 1000, .int (xs 3), .int (xs 2), .int (xs 1), .ref 70, .int v])) (hp' := hp1) zfL_218 (fun _ => rfl) (Nat.le_refl _) ?_
  refine r_s (fr' := (220, [(3, .int 0), (2, .ref 70), (1, .ref 0), (0, .ref 1000)], [.int 4, .int 0, .ref 1000, .int (xs 3), .int (xs 2), .int (xs 1), .ref 70, .int v])) (hp' := hp1) zfL_219 (fun _ => rfl) (Nat.le_refl _) ?_
  refine r_s (fr' := (221, [(3, .int 0), (2, .ref 70), (1, .ref 0), (0, .ref 1000)], [.int (0 + 4), .ref 1000, .int (xs 3), .int (xs 2), .int (xs 1), .ref 70, .int v])) (hp' := hp1) zfL_220 (fun _ => rfl) (Nat.le_refl _) ?_
  refine r_scr (n := 4) zfL_221 (by decide) (by decide) ?_
  show zR _ _ _ _ _ (222, [(3, .int 0), (2, .ref 70), (1, .ref 0), (0, .ref 1000)], [.int (xs 4), .int (xs 3), .int (xs 2), .int (xs 1), .ref 70, .int v]) hp1 _
  refine r_s (fr' := (223, [(3, .int 0), (2, .ref 70), (1, .ref 0), (0, .ref 1000)], [.ref 1000, .int (xs 4), .int (xs 3), .int (xs 2), .int (xs 1), .ref 70, .int v])) (hp' := hp1) zfL_222 (fun _ => rfl) (Nat.le_refl _) ?_
  refine r_s (fr' := (224, [(3, .int 0), (2, .ref 70), (1, .ref 0), (0, .ref 1000)], [.int 0, .ref 1000, .int (xs 4), .int (xs 3), .int (xs 2), .int (xs 1), .ref 70, .int v])) (hp' := hp1) zfL_223 (fun _ => rfl) (Nat.le_refl _) ?_
  refine r_s (fr' := (225, [(3, .int 0), (2, .ref 70), (1, .ref 0), (0, .ref 1000)], [.int 5, .int 0, .ref 1000, .int (xs 4), .int (xs 3), .int (xs 2), .int (xs 1), .ref 70, .int v])) (hp' := hp1) zfL_224 (fun _ => rfl) (Nat.le_refl _) ?_
  refine r_s (fr' := (226, [(3, .int 0), (2, .ref 70), (1, .ref 0), (0, .ref 1000)], [.int (0 + 5), .ref 1000, .int (xs 4), .int (xs 3), .int (xs 2), .int (xs 1), .ref 70, .int v])) (hp' := hp1) zfL_225 (fun _ => rfl) (Nat.le_refl _) ?_
  refine r_scr (n := 5) zfL_226 (by decide) (by decide) ?_
  show zR _ _ _ _ _ (227, [(3, .int 0), (2, .ref 70), (1, .ref 0), (0, .ref 1000)], [.int (xs 5), .int (xs 4), .int (xs 3), .int (xs 2), .int (xs 1), .ref 70, .int v]) hp1 _
  refine r_call (ix := 70) (as := [.int (xs 1), .int (xs 2), .int (xs 3), .int (xs 4), .int (xs 5)]) (rest := [.int v]) (rv := some (.int v)) (hp' := hp2) zfL_227 har161 rfl rfl rfl q1 (Nat.le_of_ble_eq_true rfl) k2 m2 ?_
  show zR _ _ _ _ _ (230, [(3, .int 0), (2, .ref 70), (1, .ref 0), (0, .ref 1000)], [.int v, .int v]) hp2 _
  refine r_ifc zfL_230 (fun _ => ?_) (fun h => absurd h (by simp [zcmp]))
  exact K
theorem zLk_1 {hp : zHp} (F : zFr0 hp) (xs : Nat → Int32) : ∃ hp2 : zHp, hp2.1 ≤ 2000 ∧ ∀ r, zR (some (6, xs)) 20 4 ret zcL (1041, [(3, .int 0), (2, .ref 70), (1, .ref 0), (0, .ref 1000)], []) hp2 r → zR (some (6, xs)) 20 4 ret zcL (235, [(3, .int 0), (2, .ref 70), (1, .ref 0), (0, .ref 1000)], []) hp r := by
  obtain ⟨v, hp1, hp2, k1, m1, q1, k2, m2, mm⟩ := zK_1 F (xs 1)
  refine ⟨hp2, mm, fun r K => ?_⟩
  refine r_s (fr' := (236, [(3, .int 0), (2, .ref 70), (1, .ref 0), (0, .ref 1000)], [.ref 0])) (hp' := hp) zfL_235 (fun _ => rfl) (Nat.le_refl _) ?_
  refine r_s (fr' := (237, [(3, .int 0), (2, .ref 70), (1, .ref 0), (0, .ref 1000)], [.ref 1000, .ref 0])) (hp' := hp) zfL_236 (fun _ => rfl) (Nat.le_refl _) ?_
  refine r_s (fr' := (238, [(3, .int 0), (2, .ref 70), (1, .ref 0), (0, .ref 1000)], [.int 0, .ref 1000, .ref 0])) (hp' := hp) zfL_237 (fun _ => rfl) (Nat.le_refl _) ?_
  refine r_s (fr' := (239, [(3, .int 0), (2, .ref 70), (1, .ref 0), (0, .ref 1000)], [.int 1, .int 0, .ref 1000, .ref 0])) (hp' := hp) zfL_238 (fun _ => rfl) (Nat.le_refl _) ?_
  refine r_s (fr' := (240, [(3, .int 0), (2, .ref 70), (1, .ref 0), (0, .ref 1000)], [.int (0 + 1), .ref 1000, .ref 0])) (hp' := hp) zfL_239 (fun _ => rfl) (Nat.le_refl _) ?_
  refine r_scr (n := 1) zfL_240 (by decide) (by decide) ?_
  show zR _ _ _ _ _ (241, [(3, .int 0), (2, .ref 70), (1, .ref 0), (0, .ref 1000)], [.int (xs 1), .ref 0]) hp _
  refine r_call (ix := 0) (as := [.int (xs 1)]) (rest := []) (rv := some (.int v)) (hp' := hp1) zfL_241 har124 rfl rfl rfl (hk0 F) (Nat.le_of_ble_eq_true rfl) k1 m1 ?_
  show zR _ _ _ _ _ (244, [(3, .int 0), (2, .ref 70), (1, .ref 0), (0, .ref 1000)], [.int v]) hp1 _
  refine r_s (fr' := (245, [(3, .int 0), (2, .ref 70), (1, .ref 0), (0, .ref 1000)], [.ref 70, .int v])) (hp' := hp1) zfL_244 (fun _ => rfl) (Nat.le_refl _) ?_
  refine r_s (fr' := (246, [(3, .int 0), (2, .ref 70), (1, .ref 0), (0, .ref 1000)], [.ref 1000, .ref 70, .int v])) (hp' := hp1) zfL_245 (fun _ => rfl) (Nat.le_refl _) ?_
  refine r_s (fr' := (247, [(3, .int 0), (2, .ref 70), (1, .ref 0), (0, .ref 1000)], [.int 0, .ref 1000, .ref 70, .int v])) (hp' := hp1) zfL_246 (fun _ => rfl) (Nat.le_refl _) ?_
  refine r_s (fr' := (248, [(3, .int 0), (2, .ref 70), (1, .ref 0), (0, .ref 1000)], [.int 1, .int 0, .ref 1000, .ref 70, .int v])) (hp' := hp1) zfL_247 (fun _ => rfl) (Nat.le_refl _) ?_
  refine r_s (fr' := (249, [(3, .int 0), (2, .ref 70), (1, .ref 0), (0, .ref 1000)], [.int (0 + 1), .ref 1000, .ref 70, .int v])) (hp' := hp1) zfL_248 (fun _ => rfl) (Nat.le_refl _) ?_
  refine r_scr (n := 1) zfL_249 (by decide) (by decide) ?_
  show zR _ _ _ _ _ (250, [(3, .int 0), (2, .ref 70), (1, .ref 0), (0, .ref 1000)], [.int (xs 1), .ref 70, .int v]) hp1 _
  refine r_call (ix := 70) (as := [.int (xs 1)]) (rest := [.int v]) (rv := some (.int v)) (hp' := hp2) zfL_250 har162 rfl rfl rfl q1 (Nat.le_of_ble_eq_true rfl) k2 m2 ?_
  show zR _ _ _ _ _ (253, [(3, .int 0), (2, .ref 70), (1, .ref 0), (0, .ref 1000)], [.int v, .int v]) hp2 _
  refine r_ifc zfL_253 (fun _ => ?_) (fun h => absurd h (by simp [zcmp]))
  exact K
theorem zLk_2 {hp : zHp} (F : zFr0 hp) (xs : Nat → Int32) : ∃ hp2 : zHp, hp2.1 ≤ 2000 ∧ ∀ r, zR (some (6, xs)) 20 4 ret zcL (1041, [(3, .int 0), (2, .ref 70), (1, .ref 0), (0, .ref 1000)], []) hp2 r → zR (some (6, xs)) 20 4 ret zcL (258, [(3, .int 0), (2, .ref 70), (1, .ref 0), (0, .ref 1000)], []) hp r := by
  obtain ⟨v, hp1, hp2, k1, m1, q1, k2, m2, mm⟩ := zK_2 F 
  refine ⟨hp2, mm, fun r K => ?_⟩
  refine r_s (fr' := (259, [(3, .int 0), (2, .ref 70), (1, .ref 0), (0, .ref 1000)], [.ref 0])) (hp' := hp) zfL_258 (fun _ => rfl) (Nat.le_refl _) ?_
  refine r_call (ix := 0) (as := []) (rest := []) (rv := some (.int v)) (hp' := hp1) zfL_259 har125 rfl rfl rfl (hk0 F) (Nat.le_of_ble_eq_true rfl) k1 m1 ?_
  show zR _ _ _ _ _ (262, [(3, .int 0), (2, .ref 70), (1, .ref 0), (0, .ref 1000)], [.int v]) hp1 _
  refine r_s (fr' := (263, [(3, .int 0), (2, .ref 70), (1, .ref 0), (0, .ref 1000)], [.ref 70, .int v])) (hp' := hp1) zfL_262 (fun _ => rfl) (Nat.le_refl _) ?_
  refine r_call (ix := 70) (as := []) (rest := [.int v]) (rv := some (.int v)) (hp' := hp2) zfL_263 har198 rfl rfl rfl q1 (Nat.le_of_ble_eq_true rfl) k2 m2 ?_
  show zR _ _ _ _ _ (266, [(3, .int 0), (2, .ref 70), (1, .ref 0), (0, .ref 1000)], [.int v, .int v]) hp2 _
  refine r_ifc zfL_266 (fun _ => ?_) (fun h => absurd h (by simp [zcmp]))
  exact K
theorem zLk_3 {hp : zHp} (F : zFr0 hp) (xs : Nat → Int32) : ∃ hp2 : zHp, hp2.1 ≤ 2000 ∧ ∀ r, zR (some (6, xs)) 20 4 ret zcL (1041, [(3, .int 0), (2, .ref 70), (1, .ref 0), (0, .ref 1000)], []) hp2 r → zR (some (6, xs)) 20 4 ret zcL (271, [(3, .int 0), (2, .ref 70), (1, .ref 0), (0, .ref 1000)], []) hp r := by
  obtain ⟨v, hp1, hp2, k1, m1, q1, k2, m2, mm⟩ := zK_3 F 
  refine ⟨hp2, mm, fun r K => ?_⟩
  refine r_s (fr' := (272, [(3, .int 0), (2, .ref 70), (1, .ref 0), (0, .ref 1000)], [.ref 0])) (hp' := hp) zfL_271 (fun _ => rfl) (Nat.le_refl _) ?_
  refine r_call (ix := 0) (as := []) (rest := []) (rv := some (.int v)) (hp' := hp1) zfL_272 har126 rfl rfl rfl (hk0 F) (Nat.le_of_ble_eq_true rfl) k1 m1 ?_
  show zR _ _ _ _ _ (275, [(3, .int 0), (2, .ref 70), (1, .ref 0), (0, .ref 1000)], [.int v]) hp1 _
  refine r_s (fr' := (276, [(3, .int 0), (2, .ref 70), (1, .ref 0), (0, .ref 1000)], [.ref 70, .int v])) (hp' := hp1) zfL_275 (fun _ => rfl) (Nat.le_refl _) ?_
  refine r_call (ix := 70) (as := []) (rest := [.int v]) (rv := some (.int v)) (hp' := hp2) zfL_276 har197 rfl rfl rfl q1 (Nat.le_of_ble_eq_true rfl) k2 m2 ?_
  show zR _ _ _ _ _ (279, [(3, .int 0), (2, .ref 70), (1, .ref 0), (0, .ref 1000)], [.int v, .int v]) hp2 _
  refine r_ifc zfL_279 (fun _ => ?_) (fun h => absurd h (by simp [zcmp]))
  exact K
theorem zLk_4 {hp : zHp} (F : zFr0 hp) (xs : Nat → Int32) : ∃ hp2 : zHp, hp2.1 ≤ 2000 ∧ ∀ r, zR (some (6, xs)) 20 4 ret zcL (1041, [(3, .int 0), (2, .ref 70), (1, .ref 0), (0, .ref 1000)], []) hp2 r → zR (some (6, xs)) 20 4 ret zcL (284, [(3, .int 0), (2, .ref 70), (1, .ref 0), (0, .ref 1000)], []) hp r := by
  obtain ⟨v, hp1, hp2, k1, m1, q1, k2, m2, mm⟩ := zK_4 F (xs 1) (xs 2)
  refine ⟨hp2, mm, fun r K => ?_⟩
  refine r_s (fr' := (285, [(3, .int 0), (2, .ref 70), (1, .ref 0), (0, .ref 1000)], [.ref 0])) (hp' := hp) zfL_284 (fun _ => rfl) (Nat.le_refl _) ?_
  refine r_s (fr' := (286, [(3, .int 0), (2, .ref 70), (1, .ref 0), (0, .ref 1000)], [.ref 1000, .ref 0])) (hp' := hp) zfL_285 (fun _ => rfl) (Nat.le_refl _) ?_
  refine r_s (fr' := (287, [(3, .int 0), (2, .ref 70), (1, .ref 0), (0, .ref 1000)], [.int 0, .ref 1000, .ref 0])) (hp' := hp) zfL_286 (fun _ => rfl) (Nat.le_refl _) ?_
  refine r_s (fr' := (288, [(3, .int 0), (2, .ref 70), (1, .ref 0), (0, .ref 1000)], [.int 1, .int 0, .ref 1000, .ref 0])) (hp' := hp) zfL_287 (fun _ => rfl) (Nat.le_refl _) ?_
  refine r_s (fr' := (289, [(3, .int 0), (2, .ref 70), (1, .ref 0), (0, .ref 1000)], [.int (0 + 1), .ref 1000, .ref 0])) (hp' := hp) zfL_288 (fun _ => rfl) (Nat.le_refl _) ?_
  refine r_scr (n := 1) zfL_289 (by decide) (by decide) ?_
  show zR _ _ _ _ _ (290, [(3, .int 0), (2, .ref 70), (1, .ref 0), (0, .ref 1000)], [.int (xs 1), .ref 0]) hp _
  refine r_s (fr' := (291, [(3, .int 0), (2, .ref 70), (1, .ref 0), (0, .ref 1000)], [.ref 1000, .int (xs 1), .ref 0])) (hp' := hp) zfL_290 (fun _ => rfl) (Nat.le_refl _) ?_
  refine r_s (fr' := (292, [(3, .int 0), (2, .ref 70), (1, .ref 0), (0, .ref 1000)], [.int 0, .ref 1000, .int (xs 1), .ref 0])) (hp' := hp) zfL_291 (fun _ => rfl) (Nat.le_refl _) ?_
  refine r_s (fr' := (293, [(3, .int 0), (2, .ref 70), (1, .ref 0), (0, .ref 1000)], [.int 2, .int 0, .ref 1000, .int (xs 1), .ref 0])) (hp' := hp) zfL_292 (fun _ => rfl) (Nat.le_refl _) ?_
  refine r_s (fr' := (294, [(3, .int 0), (2, .ref 70), (1, .ref 0), (0, .ref 1000)], [.int (0 + 2), .ref 1000, .int (xs 1), .ref 0])) (hp' := hp) zfL_293 (fun _ => rfl) (Nat.le_refl _) ?_
  refine r_scr (n := 2) zfL_294 (by decide) (by decide) ?_
  show zR _ _ _ _ _ (295, [(3, .int 0), (2, .ref 70), (1, .ref 0), (0, .ref 1000)], [.int (xs 2), .int (xs 1), .ref 0]) hp _
  refine r_call (ix := 0) (as := [.int (xs 1), .int (xs 2)]) (rest := []) (rv := some (.int v)) (hp' := hp1) zfL_295 har128 rfl rfl rfl (hk0 F) (Nat.le_of_ble_eq_true rfl) k1 m1 ?_
  show zR _ _ _ _ _ (298, [(3, .int 0), (2, .ref 70), (1, .ref 0), (0, .ref 1000)], [.int v]) hp1 _
  refine r_s (fr' := (299, [(3, .int 0), (2, .ref 70), (1, .ref 0), (0, .ref 1000)], [.ref 70, .int v])) (hp' := hp1) zfL_298 (fun _ => rfl) (Nat.le_refl _) ?_
  refine r_s (fr' := (300, [(3, .int 0), (2, .ref 70), (1, .ref 0), (0, .ref 1000)], [.ref 1000, .ref 70, .int v])) (hp' := hp1) zfL_299 (fun _ => rfl) (Nat.le_refl _) ?_
  refine r_s (fr' := (301, [(3, .int 0), (2, .ref 70), (1, .ref 0), (0, .ref 1000)], [.int 0, .ref 1000, .ref 70, .int v])) (hp' := hp1) zfL_300 (fun _ => rfl) (Nat.le_refl _) ?_
  refine r_s (fr' := (302, [(3, .int 0), (2, .ref 70), (1, .ref 0), (0, .ref 1000)], [.int 1, .int 0, .ref 1000, .ref 70, .int v])) (hp' := hp1) zfL_301 (fun _ => rfl) (Nat.le_refl _) ?_
  refine r_s (fr' := (303, [(3, .int 0), (2, .ref 70), (1, .ref 0), (0, .ref 1000)], [.int (0 + 1), .ref 1000, .ref 70, .int v])) (hp' := hp1) zfL_302 (fun _ => rfl) (Nat.le_refl _) ?_
  refine r_scr (n := 1) zfL_303 (by decide) (by decide) ?_
  show zR _ _ _ _ _ (304, [(3, .int 0), (2, .ref 70), (1, .ref 0), (0, .ref 1000)], [.int (xs 1), .ref 70, .int v]) hp1 _
  refine r_s (fr' := (305, [(3, .int 0), (2, .ref 70), (1, .ref 0), (0, .ref 1000)], [.ref 1000, .int (xs 1), .ref 70, .int v])) (hp' := hp1) zfL_304 (fun _ => rfl) (Nat.le_refl _) ?_
  refine r_s (fr' := (306, [(3, .int 0), (2, .ref 70), (1, .ref 0), (0, .ref 1000)], [.int 0, .ref 1000, .int (xs 1), .ref 70, .int v])) (hp' := hp1) zfL_305 (fun _ => rfl) (Nat.le_refl _) ?_
  refine r_s (fr' := (307, [(3, .int 0), (2, .ref 70), (1, .ref 0), (0, .ref 1000)], [.int 2, .int 0, .ref 1000, .int (xs 1), .ref 70, .int v])) (hp' := hp1) zfL_306 (fun _ => rfl) (Nat.le_refl _) ?_
  refine r_s (fr' := (308, [(3, .int 0), (2, .ref 70), (1, .ref 0), (0, .ref 1000)], [.int (0 + 2), .ref 1000, .int (xs 1), .ref 70, .int v])) (hp' := hp1) zfL_307 (fun _ => rfl) (Nat.le_refl _) ?_
  refine r_scr (n := 2) zfL_308 (by decide) (by decide) ?_
  show zR _ _ _ _ _ (309, [(3, .int 0), (2, .ref 70), (1, .ref 0), (0, .ref 1000)], [.int (xs 2), .int (xs 1), .ref 70, .int v]) hp1 _
  refine r_call (ix := 70) (as := [.int (xs 1), .int (xs 2)]) (rest := [.int v]) (rv := some (.int v)) (hp' := hp2) zfL_309 har217 rfl rfl rfl q1 (Nat.le_of_ble_eq_true rfl) k2 m2 ?_
  show zR _ _ _ _ _ (312, [(3, .int 0), (2, .ref 70), (1, .ref 0), (0, .ref 1000)], [.int v, .int v]) hp2 _
  refine r_ifc zfL_312 (fun _ => ?_) (fun h => absurd h (by simp [zcmp]))
  exact K
theorem zLk_5 {hp : zHp} (F : zFr0 hp) (xs : Nat → Int32) : ∃ hp2 : zHp, hp2.1 ≤ 2000 ∧ ∀ r, zR (some (6, xs)) 20 4 ret zcL (1041, [(3, .int 0), (2, .ref 70), (1, .ref 0), (0, .ref 1000)], []) hp2 r → zR (some (6, xs)) 20 4 ret zcL (317, [(3, .int 0), (2, .ref 70), (1, .ref 0), (0, .ref 1000)], []) hp r := by
  obtain ⟨v, hp1, hp2, k1, m1, q1, k2, m2, mm⟩ := zK_5 F (xs 1) (xs 2)
  refine ⟨hp2, mm, fun r K => ?_⟩
  refine r_s (fr' := (318, [(3, .int 0), (2, .ref 70), (1, .ref 0), (0, .ref 1000)], [.ref 0])) (hp' := hp) zfL_317 (fun _ => rfl) (Nat.le_refl _) ?_
  refine r_s (fr' := (319, [(3, .int 0), (2, .ref 70), (1, .ref 0), (0, .ref 1000)], [.ref 1000, .ref 0])) (hp' := hp) zfL_318 (fun _ => rfl) (Nat.le_refl _) ?_
  refine r_s (fr' := (320, [(3, .int 0), (2, .ref 70), (1, .ref 0), (0, .ref 1000)], [.int 0, .ref 1000, .ref 0])) (hp' := hp) zfL_319 (fun _ => rfl) (Nat.le_refl _) ?_
  refine r_s (fr' := (321, [(3, .int 0), (2, .ref 70), (1, .ref 0), (0, .ref 1000)], [.int 1, .int 0, .ref 1000, .ref 0])) (hp' := hp) zfL_320 (fun _ => rfl) (Nat.le_refl _) ?_
  refine r_s (fr' := (322, [(3, .int 0), (2, .ref 70), (1, .ref 0), (0, .ref 1000)], [.int (0 + 1), .ref 1000, .ref 0])) (hp' := hp) zfL_321 (fun _ => rfl) (Nat.le_refl _) ?_
  refine r_scr (n := 1) zfL_322 (by decide) (by decide) ?_
  show zR _ _ _ _ _ (323, [(3, .int 0), (2, .ref 70), (1, .ref 0), (0, .ref 1000)], [.int (xs 1), .ref 0]) hp _
  refine r_s (fr' := (324, [(3, .int 0), (2, .ref 70), (1, .ref 0), (0, .ref 1000)], [.ref 1000, .int (xs 1), .ref 0])) (hp' := hp) zfL_323 (fun _ => rfl) (Nat.le_refl _) ?_
  refine r_s (fr' := (325, [(3, .int 0), (2, .ref 70), (1, .ref 0), (0, .ref 1000)], [.int 0, .ref 1000, .int (xs 1), .ref 0])) (hp' := hp) zfL_324 (fun _ => rfl) (Nat.le_refl _) ?_
  refine r_s (fr' := (326, [(3, .int 0), (2, .ref 70), (1, .ref 0), (0, .ref 1000)], [.int 2, .int 0, .ref 1000, .int (xs 1), .ref 0])) (hp' := hp) zfL_325 (fun _ => rfl) (Nat.le_refl _) ?_
  refine r_s (fr' := (327, [(3, .int 0), (2, .ref 70), (1, .ref 0), (0, .ref 1000)], [.int (0 + 2), .ref 1000, .int (xs 1), .ref 0])) (hp' := hp) zfL_326 (fun _ => rfl) (Nat.le_refl _) ?_
  refine r_scr (n := 2) zfL_327 (by decide) (by decide) ?_
  show zR _ _ _ _ _ (328, [(3, .int 0), (2, .ref 70), (1, .ref 0), (0, .ref 1000)], [.int (xs 2), .int (xs 1), .ref 0]) hp _
  refine r_call (ix := 0) (as := [.int (xs 1), .int (xs 2)]) (rest := []) (rv := some (.int v)) (hp' := hp1) zfL_328 har129 rfl rfl rfl (hk0 F) (Nat.le_of_ble_eq_true rfl) k1 m1 ?_
  show zR _ _ _ _ _ (331, [(3, .int 0), (2, .ref 70), (1, .ref 0), (0, .ref 1000)], [.int v]) hp1 _
  refine r_s (fr' := (332, [(3, .int 0), (2, .ref 70), (1, .ref 0), (0, .ref 1000)], [.ref 70, .int v])) (hp' := hp1) zfL_331 (fun _ => rfl) (Nat.le_refl _) ?_
  refine r_s (fr' := (333, [(3, .int 0), (2, .ref 70), (1, .ref 0), (0, .ref 1000)], [.ref 1000, .ref 70, .int v])) (hp' := hp1) zfL_332 (fun _ => rfl) (Nat.le_refl _) ?_
  refine r_s (fr' := (334, [(3, .int 0), (2, .ref 70), (1, .ref 0), (0, .ref 1000)], [.int 0, .ref 1000, .ref 70, .int v])) (hp' := hp1) zfL_333 (fun _ => rfl) (Nat.le_refl _) ?_
  refine r_s (fr' := (335, [(3, .int 0), (2, .ref 70), (1, .ref 0), (0, .ref 1000)], [.int 1, .int 0, .ref 1000, .ref 70, .int v])) (hp' := hp1) zfL_334 (fun _ => rfl) (Nat.le_refl _) ?_
  refine r_s (fr' := (336, [(3, .int 0), (2, .ref 70), (1, .ref 0), (0, .ref 1000)], [.int (0 + 1), .ref 1000, .ref 70, .int v])) (hp' := hp1) zfL_335 (fun _ => rfl) (Nat.le_refl _) ?_
  refine r_scr (n := 1) zfL_336 (by decide) (by decide) ?_
  show zR _ _ _ _ _ (337, [(3, .int 0), (2, .ref 70), (1, .ref 0), (0, .ref 1000)], [.int (xs 1), .ref 70, .int v]) hp1 _
  refine r_s (fr' := (338, [(3, .int 0), (2, .ref 70), (1, .ref 0), (0, .ref 1000)], [.ref 1000, .int (xs 1), .ref 70, .int v])) (hp' := hp1) zfL_337 (fun _ => rfl) (Nat.le_refl _) ?_
  refine r_s (fr' := (339, [(3, .int 0), (2, .ref 70), (1, .ref 0), (0, .ref 1000)], [.int 0, .ref 1000, .int (xs 1), .ref 70, .int v])) (hp' := hp1) zfL_338 (fun _ => rfl) (Nat.le_refl _) ?_
  refine r_s (fr' := (340, [(3, .int 0), (2, .ref 70), (1, .ref 0), (0, .ref 1000)], [.int 2, .int 0, .ref 1000, .int (xs 1), .ref 70, .int v])) (hp' := hp1) zfL_339 (fun _ => rfl) (Nat.le_refl _) ?_
  refine r_s (fr' := (341, [(3, .int 0), (2, .ref 70), (1, .ref 0), (0, .ref 1000)], [.int (0 + 2), .ref 1000, .int (xs 1), .ref 70, .int v])) (hp' := hp1) zfL_340 (fun _ => rfl) (Nat.le_refl _) ?_
  refine r_scr (n := 2) zfL_341 (by decide) (by decide) ?_
  show zR _ _ _ _ _ (342, [(3, .int 0), (2, .ref 70), (1, .ref 0), (0, .ref 1000)], [.int (xs 2), .int (xs 1), .ref 70, .int v]) hp1 _
  refine r_call (ix := 70) (as := [.int (xs 1), .int (xs 2)]) (rest := [.int v]) (rv := some (.int v)) (hp' := hp2) zfL_342 har218 rfl rfl rfl q1 (Nat.le_of_ble_eq_true rfl) k2 m2 ?_
  show zR _ _ _ _ _ (345, [(3, .int 0), (2, .ref 70), (1, .ref 0), (0, .ref 1000)], [.int v, .int v]) hp2 _
  refine r_ifc zfL_345 (fun _ => ?_) (fun h => absurd h (by simp [zcmp]))
  exact K
theorem zLk_6 {hp : zHp} (F : zFr0 hp) (xs : Nat → Int32) : ∃ hp2 : zHp, hp2.1 ≤ 2000 ∧ ∀ r, zR (some (6, xs)) 20 4 ret zcL (1041, [(3, .int 0), (2, .ref 70), (1, .ref 0), (0, .ref 1000)], []) hp2 r → zR (some (6, xs)) 20 4 ret zcL (350, [(3, .int 0), (2, .ref 70), (1, .ref 0), (0, .ref 1000)], []) hp r := by
  obtain ⟨v, hp1, hp2, k1, m1, q1, k2, m2, mm⟩ := zK_6 F (xs 1) (xs 2) (xs 3)
  refine ⟨hp2, mm, fun r K => ?_⟩
  refine r_s (fr' := (351, [(3, .int 0), (2, .ref 70), (1, .ref 0), (0, .ref 1000)], [.ref 0])) (hp' := hp) zfL_350 (fun _ => rfl) (Nat.le_refl _) ?_
  refine r_s (fr' := (352, [(3, .int 0), (2, .ref 70), (1, .ref 0), (0, .ref 1000)], [.ref 1000, .ref 0])) (hp' := hp) zfL_351 (fun _ => rfl) (Nat.le_refl _) ?_
  refine r_s (fr' := (353, [(3, .int 0), (2, .ref 70), (1, .ref 0), (0, .ref 1000)], [.int 0, .ref 1000, .ref 0])) (hp' := hp) zfL_352 (fun _ => rfl) (Nat.le_refl _) ?_
  refine r_s (fr' := (354, [(3, .int 0), (2, .ref 70), (1, .ref 0), (0, .ref 1000)], [.int 1, .int 0, .ref 1000, .ref 0])) (hp' := hp) zfL_353 (fun _ => rfl) (Nat.le_refl _) ?_
  refine r_s (fr' := (355, [(3, .int 0), (2, .ref 70), (1, .ref 0), (0, .ref 1000)], [.int (0 + 1), .ref 1000, .ref 0])) (hp' := hp) zfL_354 (fun _ => rfl) (Nat.le_refl _) ?_
  refine r_scr (n := 1) zfL_355 (by decide) (by decide) ?_
  show zR _ _ _ _ _ (356, [(3, .int 0), (2, .ref 70), (1, .ref 0), (0, .ref 1000)], [.int (xs 1), .ref 0]) hp _
  refine r_s (fr' := (357, [(3, .int 0), (2, .ref 70), (1, .ref 0), (0, .ref 1000)], [.ref 1000, .int (xs 1), .ref 0])) (hp' := hp) zfL_356 (fun _ => rfl) (Nat.le_refl _) ?_
  refine r_s (fr' := (358, [(3, .int 0), (2, .ref 70), (1, .ref 0), (0, .ref 1000)], [.int 0, .ref 1000, .int (xs 1), .ref 0])) (hp' := hp) zfL_357 (fun _ => rfl) (Nat.le_refl _) ?_
  refine r_s (fr' := (359, [(3, .int 0), (2, .ref 70), (1, .ref 0), (0, .ref 1000)], [.int 2, .int 0, .ref 1000, .int (xs 1), .ref 0])) (hp' := hp) zfL_358 (fun _ => rfl) (Nat.le_refl _) ?_
  refine r_s (fr' := (360, [(3, .int 0), (2, .ref 70), (1, .ref 0), (0, .ref 1000)], [.int (0 + 2), .ref 1000, .int (xs 1), .ref 0])) (hp' := hp) zfL_359 (fun _ => rfl) (Nat.le_refl _) ?_
  refine r_scr (n := 2) zfL_360 (by decide) (by decide) ?_
  show zR _ _ _ _ _ (361, [(3, .int 0), (2, .ref 70), (1, .ref 0), (0, .ref 1000)], [.int (xs 2), .int (xs 1), .ref 0]) hp _
  refine r_s (fr' := (362, [(3, .int 0), (2, .ref 70), (1, .ref 0), (0, .ref 1000)], [.ref 1000, .int (xs 2), .int (xs 1), .ref 0])) (hp' := hp) zfL_361 (fun _ => rfl) (Nat.le_refl _) ?_
  refine r_s (fr' := (363, [(3, .int 0), (2, .ref 70), (1, .ref 0), (0, .ref 1000)], [.int 0, .ref 1000, .int (xs 2), .int (xs 1), .ref 0])) (hp' := hp) zfL_362 (fun _ => rfl) (Nat.le_refl _) ?_
  refine r_s (fr' := (364, [(3, .int 0), (2, .ref 70), (1, .ref 0), (0, .ref 1000)], [.int 3, .int 0, .ref 1000, .int (xs 2), .int (xs 1), .ref 0])) (hp' := hp) zfL_363 (fun _ => rfl) (Nat.le_refl _) ?_
  refine r_s (fr' := (365, [(3, .int 0), (2, .ref 70), (1, .ref 0), (0, .ref 1000)], [.int (0 + 3), .ref 1000, .int (xs 2), .int (xs 1), .ref 0])) (hp' := hp) zfL_364 (fun _ => rfl) (Nat.le_refl _) ?_
  refine r_scr (n := 3) zfL_365 (by decide) (by decide) ?_
  show zR _ _ _ _ _ (366, [(3, .int 0), (2, .ref 70), (1, .ref 0), (0, .ref 1000)], [.int (xs 3), .int (xs 2), .int (xs 1), .ref 0]) hp _
  refine r_call (ix := 0) (as := [.int (xs 1), .int (xs 2), .int (xs 3)]) (rest := []) (rv := some (.int v)) (hp' := hp1) zfL_366 har130 rfl rfl rfl (hk0 F) (Nat.le_of_ble_eq_true rfl) k1 m1 ?_
  show zR _ _ _ _ _ (369, [(3, .int 0), (2, .ref 70), (1, .ref 0), (0, .ref 1000)], [.int v]) hp1 _
  refine r_s (fr' := (370, [(3, .int 0), (2, .ref 70), (1, .ref 0), (0, .ref 1000)], [.ref 70, .int v])) (hp' := hp1) zfL_369 (fun _ => rfl) (Nat.le_refl _) ?_
  refine r_s (fr' := (371, [(3, .int 0), (2, .ref 70), (1, .ref 0), (0, .ref 1000)], [.ref 1000, .ref 70, .int v])) (hp' := hp1) zfL_370 (fun _ => rfl) (Nat.le_refl _) ?_
  refine r_s (fr' := (372, [(3, .int 0), (2, .ref 70), (1, .ref 0), (0, .ref 1000)], [.int 0, .ref 1000, .ref 70, .int v])) (hp' := hp1) zfL_371 (fun _ => rfl) (Nat.le_refl _) ?_
  refine r_s (fr' := (373, [(3, .int 0), (2, .ref 70), (1, .ref 0), (0, .ref 1000)], [.int 1, .int 0, .ref 1000, .ref 70, .int v])) (hp' := hp1) zfL_372 (fun _ => rfl) (Nat.le_refl _) ?_
  refine r_s (fr' := (374, [(3, .int 0), (2, .ref 70), (1, .ref 0), (0, .ref 1000)], [.int (0 + 1), .ref 1000, .ref 70, .int v])) (hp' := hp1) zfL_373 (fun _ => rfl) (Nat.le_refl _) ?_
  refine r_scr (n := 1) zfL_374 (by decide) (by decide) ?_
  show zR _ _ _ _ _ (375, [(3, .int 0), (2, .ref 70), (1, .ref 0), (0, .ref 1000)], [.int (xs 1), .ref 70, .int v]) hp1 _
  refine r_s (fr' := (376, [(3, .int 0), (2, .ref 70), (1, .ref 0), (0, .ref 1000)], [.ref 1000, .int (xs 1), .ref 70, .int v])) (hp' := hp1) zfL_375 (fun _ => rfl) (Nat.le_refl _) ?_
  refine r_s (fr' := (377, [(3, .int 0), (2, .ref 70), (1, .ref 0), (0, .ref 1000)], [.int 0, .ref 1000, .int (xs 1), .ref 70, .int v])) (hp' := hp1) zfL_376 (fun _ => rfl) (Nat.le_refl _) ?_
  refine r_s (fr' := (378, [(3, .int 0), (2, .ref 70), (1, .ref 0), (0, .ref 1000)], [.int 2, .int 0, .ref 1000, .int (xs 1), .ref 70, .int v])) (hp' := hp1) zfL_377 (fun _ => rfl) (Nat.le_refl _) ?_
  refine r_s (fr' := (379, [(3, .int 0), (2, .ref 70), (1, .ref 0), (0, .ref 1000)], [.int (0 + 2), .ref 1000, .int (xs 1), .ref 70, .int v])) (hp' := hp1) zfL_378 (fun _ => rfl) (Nat.le_refl _) ?_
  refine r_scr (n := 2) zfL_379 (by decide) (by decide) ?_
  show zR _ _ _ _ _ (380, [(3, .int 0), (2, .ref 70), (1, .ref 0), (0, .ref 1000)], [.int (xs 2), .int (xs 1), .ref 70, .int v]) hp1 _
  refine r_s (fr' := (381, [(3, .int 0), (2, .ref 70), (1, .ref 0), (0, .ref 1000)], [.ref 1000, .int (xs 2), .int (xs 1), .ref 70, .int v])) (hp' := hp1) zfL_380 (fun _ => rfl) (Nat.le_refl _) ?_
  refine r_s (fr' := (382, [(3, .int 0), (2, .ref 70), (1, .ref 0), (0, .ref 1000)], [.int 0, .ref 1000, .int (xs 2), .int (xs 1), .ref 70, .int v])) (hp' := hp1) zfL_381 (fun _ => rfl) (Nat.le_refl _) ?_
  refine r_s (fr' := (383, [(3, .int 0), (2, .ref 70), (1, .ref 0), (0, .ref 1000)], [.int 3, .int 0, .ref 1000, .int (xs 2), .int (xs 1), .ref 70, .int v])) (hp' := hp1) zfL_382 (fun _ => rfl) (Nat.le_refl _) ?_
  refine r_s (fr' := (384, [(3, .int 0), (2, .ref 70), (1, .ref 0), (0, .ref 1000)], [.int (0 + 3), .ref 1000, .int (xs 2), .int (xs 1), .ref 70, .int v])) (hp' := hp1) zfL_383 (fun _ => rfl) (Nat.le_refl _) ?_
  refine r_scr (n := 3) zfL_384 (by decide) (by decide) ?_
  show zR _ _ _ _ _ (385, [(3, .int 0), (2, .ref 70), (1, .ref 0), (0, .ref 1000)], [.int (xs 3), .int (xs 2), .int (xs 1), .ref 70, .int v]) hp1 _
  refine r_call (ix := 70) (as := [.int (xs 1), .int (xs 2), .int (xs 3)]) (rest := [.int v]) (rv := some (.int v)) (hp' := hp2) zfL_385 har219 rfl rfl rfl q1 (Nat.le_of_ble_eq_true rfl) k2 m2 ?_
  show zR _ _ _ _ _ (388, [(3, .int 0), (2, .ref 70), (1, .ref 0), (0, .ref 1000)], [.int v, .int v]) hp2 _
  refine r_ifc zfL_388 (fun _ => ?_) (fun h => absurd h (by simp [zcmp]))
  exact K
theorem zLk_7 {hp : zHp} (F : zFr0 hp) (xs : Nat → Int32) : ∃ hp2 : zHp, hp2.1 ≤ 2000 ∧ ∀ r, zR (some (6, xs)) 20 4 ret zcL (1041, [(3, .int 0), (2, .ref 70), (1, .ref 0), (0, .ref 1000)], []) hp2 r → zR (some (6, xs)) 20 4 ret zcL (393, [(3, .int 0), (2, .ref 70), (1, .ref 0), (0, .ref 1000)], []) hp r := by
  obtain ⟨v, hp1, hp2, k1, m1, q1, k2, m2, mm⟩ := zK_7 F (xs 1) (xs 2)
  refine ⟨hp2, mm, fun r K => ?_⟩
  refine r_s (fr' := (394, [(3, .int 0), (2, .ref 70), (1, .ref 0), (0, .ref 1000)], [.ref 0])) (hp' := hp) zfL_393 (fun _ => rfl) (Nat.le_refl _) ?_
  refine r_s (fr' := (395, [(3, .int 0), (2, .ref 70), (1, .ref 0), (0, .ref 1000)], [.ref 1000, .ref 0])) (hp' := hp) zfL_394 (fun _ => rfl) (Nat.le_refl _) ?_
  refine r_s (fr' := (396, [(3, .int 0), (2, .ref 70), (1, .ref 0), (0, .ref 1000)], [.int 0, .ref 1000, .ref 0])) (hp' := hp) zfL_395 (fun _ => rfl) (Nat.le_refl _) ?_
  refine r_s (fr' := (397, [(3, .int 0), (2, .ref 70), (1, .ref 0), (0, .ref 1000)], [.int 1, .int 0, .ref 1000, .ref 0])) (hp' := hp) zfL_396 (fun _ => rfl) (Nat.le_refl _) ?_
  refine r_s (fr' := (398, [(3, .int 0), (2, .ref 70), (1, .ref 0), (0, .ref 1000)], [.int (0 + 1), .ref 1000, .ref 0])) (hp' := hp) zfL_397 (fun _ => rfl) (Nat.le_refl _) ?_
  refine r_scr (n := 1) zfL_398 (by decide) (by decide) ?_
  show zR _ _ _ _ _ (399, [(3, .int 0), (2, .ref 70), (1, .ref 0), (0, .ref 1000)], [.int (xs 1), .ref 0]) hp _
  refine r_s (fr' := (400, [(3, .int 0), (2, .ref 70), (1, .ref 0), (0, .ref 1000)], [.ref 1000, .int (xs 1), .ref 0])) (hp' := hp) zfL_399 (fun _ => rfl) (Nat.le_refl _) ?_
  refine r_s (fr' := (401, [(3, .int 0), (2, .ref 70), (1, .ref 0), (0, .ref 1000)], [.int 0, .ref 1000, .int (xs 1), .ref 0])) (hp' := hp) zfL_400 (fun _ => rfl) (Nat.le_refl _) ?_
  refine r_s (fr' := (402, [(3, .int 0), (2, .ref 70), (1, .ref 0), (0, .ref 1000)], [.int 2, .int 0, .ref 1000, .int (xs 1), .ref 0])) (hp' := hp) zfL_401 (fun _ => rfl) (Nat.le_refl _) ?_
  refine r_s (fr' := (403, [(3, .int 0), (2, .ref 70), (1, .ref 0), (0, .ref 1000)], [.int (0 + 2), .ref 1000, .int (xs 1), .ref 0])) (hp' := hp) zfL_402 (fun _ => rfl) (Nat.le_refl _) ?_
  refine r_scr (n := 2) zfL_403 (by decide) (by decide) ?_
  show zR _ _ _ _ _ (404, [(3, .int 0), (2, .ref 70), (1, .ref 0), (0, .ref 1000)], [.int (xs 2), .int (xs 1), .ref 0]) hp _
  refine r_call (ix := 0) (as := [.int (xs 1), .int (xs 2)]) (rest := []) (rv := some (.int v)) (hp' := hp1) zfL_404 har131 rfl rfl rfl (hk0 F) (Nat.le_of_ble_eq_true rfl) k1 m1 ?_
  show zR _ _ _ _ _ (407, [(3, .int 0), (2, .ref 70), (1, .ref 0), (0, .ref 1000)], [.int v]) hp1 _
  refine r_s (fr' := (408, [(3, .int 0), (2, .ref 70), (1, .ref 0), (0, .ref 1000)], [.ref 70, .int v])) (hp' := hp1) zfL_407 (fun _ => rfl) (Nat.le_refl _) ?_
  refine r_s (fr' := (409, [(3, .int 0), (2, .ref 70), (1, .ref 0), (0, .ref 1000)], [.ref 1000, .ref 70, .int v])) (hp' := hp1) zfL_408 (fun _ => rfl) (Nat.le_refl _) ?_
  refine r_s (fr' := (410, [(3, .int 0), (2, .ref 70), (1, .ref 0), (0, .ref 1000)], [.int 0, .ref 1000, .ref 70, .int v])) (hp' := hp1) zfL_409 (fun _ => rfl) (Nat.le_refl _) ?_
  refine r_s (fr' := (411, [(3, .int 0), (2, .ref 70), (1, .ref 0), (0, .ref 1000)], [.int 1, .int 0, .ref 1000, .ref 70, .int v])) (hp' := hp1) zfL_410 (fun _ => rfl) (Nat.le_refl _) ?_
  refine r_s (fr' := (412, [(3, .int 0), (2, .ref 70), (1, .ref 0), (0, .ref 1000)], [.int (0 + 1), .ref 1000, .ref 70, .int v])) (hp' := hp1) zfL_411 (fun _ => rfl) (Nat.le_refl _) ?_
  refine r_scr (n := 1) zfL_412 (by decide) (by decide) ?_
  show zR _ _ _ _ _ (413, [(3, .int 0), (2, .ref 70), (1, .ref 0), (0, .ref 1000)], [.int (xs 1), .ref 70, .int v]) hp1 _
  refine r_s (fr' := (414, [(3, .int 0), (2, .ref 70), (1, .ref 0), (0, .ref 1000)], [.ref 1000, .int (xs 1), .ref 70, .int v])) (hp' := hp1) zfL_413 (fun _ => rfl) (Nat.le_refl _) ?_
  refine r_s (fr' := (415, [(3, .int 0), (2, .ref 70), (1, .ref 0), (0, .ref 1000)], [.int 0, .ref 1000, .int (xs 1), .ref 70, .int v])) (hp' := hp1) zfL_414 (fun _ => rfl) (Nat.le_refl _) ?_
  refine r_s (fr' := (416, [(3, .int 0), (2, .ref 70), (1, .ref 0), (0, .ref 1000)], [.int 2, .int 0, .ref 1000, .int (xs 1), .ref 70, .int v])) (hp' := hp1) zfL_415 (fun _ => rfl) (Nat.le_refl _) ?_
  refine r_s (fr' := (417, [(3, .int 0), (2, .ref 70), (1, .ref 0), (0, .ref 1000)], [.int (0 + 2), .ref 1000, .int (xs 1), .ref 70, .int v])) (hp' := hp1) zfL_416 (fun _ => rfl) (Nat.le_refl _) ?_
  refine r_scr (n := 2) zfL_417 (by decide) (by decide) ?_
  show zR _ _ _ _ _ (418, [(3, .int 0), (2, .ref 70), (1, .ref 0), (0, .ref 1000)], [.int (xs 2), .int (xs 1), .ref 70, .int v]) hp1 _
  refine r_call (ix := 70) (as := [.int (xs 1), .int (xs 2)]) (rest := [.int v]) (rv := some (.int v)) (hp' := hp2) zfL_418 har226 rfl rfl rfl q1 (Nat.le_of_ble_eq_true rfl) k2 m2 ?_
  show zR _ _ _ _ _ (421, [(3, .int 0), (2, .ref 70), (1, .ref 0), (0, .ref 1000)], [.int v, .int v]) hp2 _
  refine r_ifc zfL_421 (fun _ => ?_) (fun h => absurd h (by simp [zcmp]))
  exact K
theorem zLk_8 {hp : zHp} (F : zFr0 hp) (xs : Nat → Int32) : ∃ hp2 : zHp, hp2.1 ≤ 2000 ∧ ∀ r, zR (some (6, xs)) 20 4 ret zcL (1041, [(3, .int 0), (2, .ref 70), (1, .ref 0), (0, .ref 1000)], []) hp2 r → zR (some (6, xs)) 20 4 ret zcL (426, [(3, .int 0), (2, .ref 70), (1, .ref 0), (0, .ref 1000)], []) hp r := by
  obtain ⟨v, hp1, hp2, k1, m1, q1, k2, m2, mm⟩ := zK_8 F (xs 1)
  refine ⟨hp2, mm, fun r K => ?_⟩
  refine r_s (fr' := (427, [(3, .int 0), (2, .ref 70), (1, .ref 0), (0, .ref 1000)], [.ref 0])) (hp' := hp) zfL_426 (fun _ => rfl) (Nat.le_refl _) ?_
  refine r_s (fr' := (428, [(3, .int 0), (2, .ref 70), (1, .ref 0), (0, .ref 1000)], [.ref 1000, .ref 0])) (hp' := hp) zfL_427 (fun _ => rfl) (Nat.le_refl _) ?_
  refine r_s (fr' := (429, [(3, .int 0), (2, .ref 70), (1, .ref 0), (0, .ref 1000)], [.int 0, .ref 1000, .ref 0])) (hp' := hp) zfL_428 (fun _ => rfl) (Nat.le_refl _) ?_
  refine r_s (fr' := (430, [(3, .int 0), (2, .ref 70), (1, .ref 0), (0, .ref 1000)], [.int 1, .int 0, .ref 1000, .ref 0])) (hp' := hp) zfL_429 (fun _ => rfl) (Nat.le_refl _) ?_
  refine r_s (fr' := (431, [(3, .int 0), (2, .ref 70), (1, .ref 0), (0, .ref 1000)], [.int (0 + 1), .ref 1000, .ref 0])) (hp' := hp) zfL_430 (fun _ => rfl) (Nat.le_refl _) ?_
  refine r_scr (n := 1) zfL_431 (by decide) (by decide) ?_
  show zR _ _ _ _ _ (432, [(3, .int 0), (2, .ref 70), (1, .ref 0), (0, .ref 1000)], [.int (xs 1), .ref 0]) hp _
  refine r_call (ix := 0) (as := [.int (xs 1)]) (rest := []) (rv := some (.int v)) (hp' := hp1) zfL_432 har132 rfl rfl rfl (hk0 F) (Nat.le_of_ble_eq_true rfl) k1 m1 ?_
  show zR _ _ _ _ _ (435, [(3, .int 0), (2, .ref 70), (1, .ref 0), (0, .ref 1000)], [.int v]) hp1 _
  refine r_s (fr' := (436, [(3, .int 0), (2, .ref 70), (1, .ref 0), (0, .ref 1000)], [.ref 70, .int v])) (hp' := hp1) zfL_435 (fun _ => rfl) (Nat.le_refl _) ?_
  refine r_s (fr' := (437, [(3, .int 0), (2, .ref 70), (1, .ref 0), (0, .ref 1000)], [.ref 1000, .ref 70, .int v])) (hp' := hp1) zfL_436 (fun _ => rfl) (Nat.le_refl _) ?_
  refine r_s (fr' := (438, [(3, .int 0), (2, .ref 70), (1, .ref 0), (0, .ref 1000)], [.int 0, .ref 1000, .ref 70, .int v])) (hp' := hp1) zfL_437 (fun _ => rfl) (Nat.le_refl _) ?_
  refine r_s (fr' := (439, [(3, .int 0), (2, .ref 70), (1, .ref 0), (0, .ref 1000)], [.int 1, .int 0, .ref 1000, .ref 70, .int v])) (hp' := hp1) zfL_438 (fun _ => rfl) (Nat.le_refl _) ?_
  refine r_s (fr' := (440, [(3, .int 0), (2, .ref 70), (1, .ref 0), (0, .ref 1000)], [.int (0 + 1), .ref 1000, .ref 70, .int v])) (hp' := hp1) zfL_439 (fun _ => rfl) (Nat.le_refl _) ?_
  refine r_scr (n := 1) zfL_440 (by decide) (by decide) ?_
  show zR _ _ _ _ _ (441, [(3, .int 0), (2, .ref 70), (1, .ref 0), (0, .ref 1000)], [.int (xs 1), .ref 70, .int v]) hp1 _
  refine r_call (ix := 70) (as := [.int (xs 1)]) (rest := [.int v]) (rv := some (.int v)) (hp' := hp2) zfL_441 har227 rfl rfl rfl q1 (Nat.le_of_ble_eq_true rfl) k2 m2 ?_
  show zR _ _ _ _ _ (444, [(3, .int 0), (2, .ref 70), (1, .ref 0), (0, .ref 1000)], [.int v, .int v]) hp2 _
  refine r_ifc zfL_444 (fun _ => ?_) (fun h => absurd h (by simp [zcmp]))
  exact K
theorem zLk_9 {hp : zHp} (F : zFr0 hp) (xs : Nat → Int32) : ∃ hp2 : zHp, hp2.1 ≤ 2000 ∧ ∀ r, zR (some (6, xs)) 20 4 ret zcL (1041, [(3, .int 0), (2, .ref 70), (1, .ref 0), (0, .ref 1000)], []) hp2 r → zR (some (6, xs)) 20 4 ret zcL (449, [(3, .int 0), (2, .ref 70), (1, .ref 0), (0, .ref 1000)], []) hp r := by
  obtain ⟨v, hp1, hp2, k1, m1, q1, k2, m2, mm⟩ := zK_9 F (xs 1)
  refine ⟨hp2, mm, fun r K => ?_⟩
  refine r_s (fr' := (450, [(3, .int 0), (2, .ref 70), (1, .ref 0), (0, .ref 1000)], [.ref 0])) (hp' := hp) zfL_449 (fun _ => rfl) (Nat.le_refl _) ?_
  refine r_s (fr' := (451, [(3, .int 0), (2, .ref 70), (1, .ref 0), (0, .ref 1000)], [.ref 1000, .ref 0])) (hp' := hp) zfL_450 (fun _ => rfl) (Nat.le_refl _) ?_
  refine r_s (fr' := (452, [(3, .int 0), (2, .ref 70), (1, .ref 0), (0, .ref 1000)], [.int 0, .ref 1000, .ref 0])) (hp' := hp) zfL_451 (fun _ => rfl) (Nat.le_refl _) ?_
  refine r_s (fr' := (453, [(3, .int 0), (2, .ref 70), (1, .ref 0), (0, .ref 1000)], [.int 1, .int 0, .ref 1000, .ref 0])) (hp' := hp) zfL_452 (fun _ => rfl) (Nat.le_refl _) ?_
  refine r_s (fr' := (454, [(3, .int 0), (2, .ref 70), (1, .ref 0), (0, .ref 1000)], [.int (0 + 1), .ref 1000, .ref 0])) (hp' := hp) zfL_453 (fun _ => rfl) (Nat.le_refl _) ?_
  refine r_scr (n := 1) zfL_454 (by decide) (by decide) ?_
  show zR _ _ _ _ _ (455, [(3, .int 0), (2, .ref 70), (1, .ref 0), (0, .ref 1000)], [.int (xs 1), .ref 0]) hp _
  refine r_call (ix := 0) (as := [.int (xs 1)]) (rest := []) (rv := some (.int v)) (hp' := hp1) zfL_455 har133 rfl rfl rfl (hk0 F) (Nat.le_of_ble_eq_true rfl) k1 m1 ?_
  show zR _ _ _ _ _ (458, [(3, .int 0), (2, .ref 70), (1, .ref 0), (0, .ref 1000)], [.int v]) hp1 _
  refine r_s (fr' := (459, [(3, .int 0), (2, .ref 70), (1, .ref 0), (0, .ref 1000)], [.ref 70, .int v])) (hp' := hp1) zfL_458 (fun _ => rfl) (Nat.le_refl _) ?_
  refine r_s (fr' := (460, [(3, .int 0), (2, .ref 70), (1, .ref 0), (0, .ref 1000)], [.ref 1000, .ref 70, .int v])) (hp' := hp1) zfL_459 (fun _ => rfl) (Nat.le_refl _) ?_
  refine r_s (fr' := (461, [(3, .int 0), (2, .ref 70), (1, .ref 0), (0, .ref 1000)], [.int 0, .ref 1000, .ref 70, .int v])) (hp' := hp1) zfL_460 (fun _ => rfl) (Nat.le_refl _) ?_
  refine r_s (fr' := (462, [(3, .int 0), (2, .ref 70), (1, .ref 0), (0, .ref 1000)], [.int 1, .int 0, .ref 1000, .ref 70, .int v])) (hp' := hp1) zfL_461 (fun _ => rfl) (Nat.le_refl _) ?_
  refine r_s (fr' := (463, [(3, .int 0), (2, .ref 70), (1, .ref 0), (0, .ref 1000)], [.int (0 + 1), .ref 1000, .ref 70, .int v])) (hp' := hp1) zfL_462 (fun _ => rfl) (Nat.le_refl _) ?_
  refine r_scr (n := 1) zfL_463 (by decide) (by decide) ?_
  show zR _ _ _ _ _ (464, [(3, .int 0), (2, .ref 70), (1, .ref 0), (0, .ref 1000)], [.int (xs 1), .ref 70, .int v]) hp1 _
  refine r_call (ix := 70) (as := [.int (xs 1)]) (rest := [.int v]) (rv := some (.int v)) (hp' := hp2) zfL_464 har228 rfl rfl rfl q1 (Nat.le_of_ble_eq_true rfl) k2 m2 ?_
  show zR _ _ _ _ _ (467, [(3, .int 0), (2, .ref 70), (1, .ref 0), (0, .ref 1000)], [.int v, .int v]) hp2 _
  refine r_ifc zfL_467 (fun _ => ?_) (fun h => absurd h (by simp [zcmp]))
  exact K
theorem zLk_10 {hp : zHp} (F : zFr0 hp) (xs : Nat → Int32) : ∃ hp2 : zHp, hp2.1 ≤ 2000 ∧ ∀ r, zR (some (6, xs)) 20 4 ret zcL (1041, [(3, .int 0), (2, .ref 70), (1, .ref 0), (0, .ref 1000)], []) hp2 r → zR (some (6, xs)) 20 4 ret zcL (472, [(3, .int 0), (2, .ref 70), (1, .ref 0), (0, .ref 1000)], []) hp r := by
  obtain ⟨v, hp1, hp2, k1, m1, q1, k2, m2, mm⟩ := zK_10 F (xs 1) (xs 2)
  refine ⟨hp2, mm, fun r K => ?_⟩
  refine r_s (fr' := (473, [(3, .int 0), (2, .ref 70), (1, .ref 0), (0, .ref 1000)], [.ref 0])) (hp' := hp) zfL_472 (fun _ => rfl) (Nat.le_refl _) ?_
  refine r_s (fr' := (474, [(3, .int 0), (2, .ref 70), (1, .ref 0), (0, .ref 1000)], [.ref 1000, .ref 0])) (hp' := hp) zfL_473 (fun _ => rfl) (Nat.le_refl _) ?_
  refine r_s (fr' := (475, [(3, .int 0), (2, .ref 70), (1, .ref 0), (0, .ref 1000)], [.int 0, .ref 1000, .ref 0])) (hp' := hp) zfL_474 (fun _ => rfl) (Nat.le_refl _) ?_
  refine r_s (fr' := (476, [(3, .int 0), (2, .ref 70), (1, .ref 0), (0, .ref 1000)], [.int 1, .int 0, .ref 1000, .ref 0])) (hp' := hp) zfL_475 (fun _ => rfl) (Nat.le_refl _) ?_
  refine r_s (fr' := (477, [(3, .int 0), (2, .ref 70), (1, .ref 0), (0, .ref 1000)], [.int (0 + 1), .ref 1000, .ref 0])) (hp' := hp) zfL_476 (fun _ => rfl) (Nat.le_refl _) ?_
  refine r_scr (n := 1) zfL_477 (by decide) (by decide) ?_
  show zR _ _ _ _ _ (478, [(3, .int 0), (2, .ref 70), (1, .ref 0), (0, .ref 1000)], [.int (xs 1), .ref 0]) hp _
  refine r_s (fr' := (479, [(3, .int 0), (2, .ref 70), (1, .ref 0), (0, .ref 1000)], [.ref 1000, .int (xs 1), .ref 0])) (hp' := hp) zfL_478 (fun _ => rfl) (Nat.le_refl _) ?_
  refine r_s (fr' := (480, [(3, .int 0), (2, .ref 70), (1, .ref 0), (0, .ref 1000)], [.int 0, .ref 1000, .int (xs 1), .ref 0])) (hp' := hp) zfL_479 (fun _ => rfl) (Nat.le_refl _) ?_
  refine r_s (fr' := (481, [(3, .int 0), (2, .ref 70), (1, .ref 0), (0, .ref 1000)], [.int 2, .int 0, .ref 1000, .int (xs 1), .ref 0])) (hp' := hp) zfL_480 (fun _ => rfl) (Nat.le_refl _) ?_
  refine r_s (fr' := (482, [(3, .int 0), (2, .ref 70), (1, .ref 0), (0, .ref 1000)], [.int (0 + 2), .ref 1000, .int (xs 1), .ref 0])) (hp' := hp) zfL_481 (fun _ => rfl) (Nat.le_refl _) ?_
  refine r_scr (n := 2) zfL_482 (by decide) (by decide) ?_
  show zR _ _ _ _ _ (483, [(3, .int 0), (2, .ref 70), (1, .ref 0), (0, .ref 1000)], [.int (xs 2), .int (xs 1), .ref 0]) hp _
  refine r_call (ix := 0) (as := [.int (xs 1), .int (xs 2)]) (rest := []) (rv := some (.int v)) (hp' := hp1) zfL_483 har134 rfl rfl rfl (hk0 F) (Nat.le_of_ble_eq_true rfl) k1 m1 ?_
  show zR _ _ _ _ _ (486, [(3, .int 0), (2, .ref 70), (1, .ref 0), (0, .ref 1000)], [.int v]) hp1 _
  refine r_s (fr' := (487, [(3, .int 0), (2, .ref 70), (1, .ref 0), (0, .ref 1000)], [.ref 70, .int v])) (hp' := hp1) zfL_486 (fun _ => rfl) (Nat.le_refl _) ?_
  refine r_s (fr' := (488, [(3, .int 0), (2, .ref 70), (1, .ref 0), (0, .ref 1000)], [.ref 1000, .ref 70, .int v])) (hp' := hp1) zfL_487 (fun _ => rfl) (Nat.le_refl _) ?_
  refine r_s (fr' := (489, [(3, .int 0), (2, .ref 70), (1, .ref 0), (0, .ref 1000)], [.int 0, .ref 1000, .ref 70, .int v])) (hp' := hp1) zfL_488 (fun _ => rfl) (Nat.le_refl _) ?_
  refine r_s (fr' := (490, [(3, .int 0), (2, .ref 70), (1, .ref 0), (0, .ref 1000)], [.int 1, .int 0, .ref 1000, .ref 70, .int v])) (hp' := hp1) zfL_489 (fun _ => rfl) (Nat.le_refl _) ?_
  refine r_s (fr' := (491, [(3, .int 0), (2, .ref 70), (1, .ref 0), (0, .ref 1000)], [.int (0 + 1), .ref 1000, .ref 70, .int v])) (hp' := hp1) zfL_490 (fun _ => rfl) (Nat.le_refl _) ?_
  refine r_scr (n := 1) zfL_491 (by decide) (by decide) ?_
  show zR _ _ _ _ _ (492, [(3, .int 0), (2, .ref 70), (1, .ref 0), (0, .ref 1000)], [.int (xs 1), .ref 70, .int v]) hp1 _
  refine r_s (fr' := (493, [(3, .int 0), (2, .ref 70), (1, .ref 0), (0, .ref 1000)], [.ref 1000, .int (xs 1), .ref 70, .int v])) (hp' := hp1) zfL_492 (fun _ => rfl) (Nat.le_refl _) ?_
  refine r_s (fr' := (494, [(3, .int 0), (2, .ref 70), (1, .ref 0), (0, .ref 1000)], [.int 0, .ref 1000, .int (xs 1), .ref 70, .int v])) (hp' := hp1) zfL_493 (fun _ => rfl) (Nat.le_refl _) ?_
  refine r_s (fr' := (495, [(3, .int 0), (2, .ref 70), (1, .ref 0), (0, .ref 1000)], [.int 2, .int 0, .ref 1000, .int (xs 1), .ref 70, .int v])) (hp' := hp1) zfL_494 (fun _ => rfl) (Nat.le_refl _) ?_
  refine r_s (fr' := (496, [(3, .int 0), (2, .ref 70), (1, .ref 0), (0, .ref 1000)], [.int (0 + 2), .ref 1000, .int (xs 1), .ref 70, .int v])) (hp' := hp1) zfL_495 (fun _ => rfl) (Nat.le_refl _) ?_
  refine r_scr (n := 2) zfL_496 (by decide) (by decide) ?_
  show zR _ _ _ _ _ (497, [(3, .int 0), (2, .ref 70), (1, .ref 0), (0, .ref 1000)], [.int (xs 2), .int (xs 1), .ref 70, .int v]) hp1 _
  refine r_call (ix := 70) (as := [.int (xs 1), .int (xs 2)]) (rest := [.int v]) (rv := some (.int v)) (hp' := hp2) zfL_497 har230 rfl rfl rfl q1 (Nat.le_of_ble_eq_true rfl) k2 m2 ?_
  show zR _ _ _ _ _ (500, [(3, .int 0), (2, .ref 70), (1, .ref 0), (0, .ref 1000)], [.int v, .int v]) hp2 _
  refine r_ifc zfL_500 (fun _ => ?_) (fun h => absurd h (by simp [zcmp]))
  exact K
theorem zLk_11 {hp : zHp} (F : zFr0 hp) (xs : Nat → Int32) : ∃ hp2 : zHp, hp2.1 ≤ 2000 ∧ ∀ r, zR (some (6, xs)) 20 4 ret zcL (1041, [(3, .int 0), (2, .ref 70), (1, .ref 0), (0, .ref 1000)], []) hp2 r → zR (some (6, xs)) 20 4 ret zcL (505, [(3, .int 0), (2, .ref 70), (1, .ref 0), (0, .ref 1000)], []) hp r := by
  obtain ⟨v, hp1, hp2, k1, m1, q1, k2, m2, mm⟩ := zK_11 F 
  refine ⟨hp2, mm, fun r K => ?_⟩
  refine r_s (fr' := (506, [(3, .int 0), (2, .ref 70), (1, .ref 0), (0, .ref 1000)], [.ref 0])) (hp' := hp) zfL_505 (fun _ => rfl) (Nat.le_refl _) ?_
  refine r_call (ix := 0) (as := []) (rest := []) (rv := some (.int v)) (hp' := hp1) zfL_506 har135 rfl rfl rfl (hk0 F) (Nat.le_of_ble_eq_true rfl) k1 m1 ?_
  show zR _ _ _ _ _ (509, [(3, .int 0), (2, .ref 70), (1, .ref 0), (0, .ref 1000)], [.int v]) hp1 _
  refine r_s (fr' := (510, [(3, .int 0), (2, .ref 70), (1, .ref 0), (0, .ref 1000)], [.ref 70, .int v])) (hp' := hp1) zfL_509 (fun _ => rfl) (Nat.le_refl _) ?_
  refine r_call (ix := 70) (as := []) (rest := [.int v]) (rv := some (.int v)) (hp' := hp2) zfL_510 har242 rfl rfl rfl q1 (Nat.le_of_ble_eq_true rfl) k2 m2 ?_
  show zR _ _ _ _ _ (513, [(3, .int 0), (2, .ref 70), (1, .ref 0), (0, .ref 1000)], [.int v, .int v]) hp2 _
  refine r_ifc zfL_513 (fun _ => ?_) (fun h => absurd h (by simp [zcmp]))
  exact K
theorem zLk_12 {hp : zHp} (F : zFr0 hp) (xs : Nat → Int32) : ∃ hp2 : zHp, hp2.1 ≤ 2000 ∧ ∀ r, zR (some (6, xs)) 20 4 ret zcL (1041, [(3, .int 0), (2, .ref 70), (1, .ref 0), (0, .ref 1000)], []) hp2 r → zR (some (6, xs)) 20 4 ret zcL (518, [(3, .int 0), (2, .ref 70), (1, .ref 0), (0, .ref 1000)], []) hp r := by
  obtain ⟨v, hp1, hp2, k1, m1, q1, k2, m2, mm⟩ := zK_12 F (xs 1) (xs 2)
  refine ⟨hp2, mm, fun r K => ?_⟩
  refine r_s (fr' := (519, [(3, .int 0), (2, .ref 70), (1, .ref 0), (0, .ref 1000)], [.ref 0])) (hp' := hp) zfL_518 (fun _ => rfl) (Nat.le_refl _) ?_
  refine r_s (fr' := (520, [(3, .int 0), (2, .ref 70), (1, .ref 0), (0, .ref 1000)], [.ref 1000, .ref 0])) (hp' := hp) zfL_519 (fun _ => rfl) (Nat.le_refl _) ?_
  refine r_s (fr' := (521, [(3, .int 0), (2, .ref 70), (1, .ref 0), (0, .ref 1000)], [.int 0, .ref 1000, .ref 0])) (hp' := hp) zfL_520 (fun _ => rfl) (Nat.le_refl _) ?_
  refine r_s (fr' := (522, [(3, .int 0), (2, .ref 70), (1, .ref 0), (0, .ref 1000)], [.int 1, .int 0, .ref 1000, .ref 0])) (hp' := hp) zfL_521 (fun _ => rfl) (Nat.le_refl _) ?_
  refine r_s (fr' := (523, [(3, .int 0), (2, .ref 70), (1, .ref 0), (0, .ref 1000)], [.int (0 + 1), .ref 1000, .ref 0])) (hp' := hp) zfL_522 (fun _ => rfl) (Nat.le_refl _) ?_
  refine r_scr (n := 1) zfL_523 (by decide) (by decide) ?_
  show zR _ _ _ _ _ (524, [(3, .int 0), (2, .ref 70), (1, .ref 0), (0, .ref 1000)], [.int (xs 1), .ref 0]) hp _
  refine r_s (fr' := (525, [(3, .int 0), (2, .ref 70), (1, .ref 0), (0, .ref 1000)], [.ref 1000, .int (xs 1), .ref 0])) (hp' := hp) zfL_524 (fun _ => rfl) (Nat.le_refl _) ?_
  refine r_s (fr' := (526, [(3, .int 0), (2, .ref 70), (1, .ref 0), (0, .ref 1000)], [.int 0, .ref 1000, .int (xs 1), .ref 0])) (hp' := hp) zfL_525 (fun _ => rfl) (Nat.le_refl _) ?_
  refine r_s (fr' := (527, [(3, .int 0), (2, .ref 70), (1, .ref 0), (0, .ref 1000)], [.int 2, .int 0, .ref 1000, .int (xs 1), .ref 0])) (hp' := hp) zfL_526 (fun _ => rfl) (Nat.le_refl _) ?_
  refine r_s (fr' := (528, [(3, .int 0), (2, .ref 70), (1, .ref 0), (0, .ref 1000)], [.int (0 + 2), .ref 1000, .int (xs 1), .ref 0])) (hp' := hp) zfL_527 (fun _ => rfl) (Nat.le_refl _) ?_
  refine r_scr (n := 2) zfL_528 (by decide) (by decide) ?_
  show zR _ _ _ _ _ (529, [(3, .int 0), (2, .ref 70), (1, .ref 0), (0, .ref 1000)], [.int (xs 2), .int (xs 1), .ref 0]) hp _
  refine r_call (ix := 0) (as := [.int (xs 1), .int (xs 2)]) (rest := []) (rv := some (.int v)) (hp' := hp1) zfL_529 har136 rfl rfl rfl (hk0 F) (Nat.le_of_ble_eq_true rfl) k1 m1 ?_
  show zR _ _ _ _ _ (532, [(3, .int 0), (2, .ref 70), (1, .ref 0), (0, .ref 1000)], [.int v]) hp1 _
  refine r_s (fr' := (533, [(3, .int 0), (2, .ref 70), (1, .ref 0), (0, .ref 1000)], [.ref 70, .int v])) (hp' := hp1) zfL_532 (fun _ => rfl) (Nat.le_refl _) ?_
  refine r_s (fr' := (534, [(3, .int 0), (2, .ref 70), (1, .ref 0), (0, .ref 1000)], [.ref 1000, .ref 70, .int v])) (hp' := hp1) zfL_533 (fun _ => rfl) (Nat.le_refl _) ?_
  refine r_s (fr' := (535, [(3, .int 0), (2, .ref 70), (1, .ref 0), (0, .ref 1000)], [.int 0, .ref 1000, .ref 70, .int v])) (hp' := hp1) zfL_534 (fun _ => rfl) (Nat.le_refl _) ?_
  refine r_s (fr' := (536, [(3, .int 0), (2, .ref 70), (1, .ref 0), (0, .ref 1000)], [.int 1, .int 0, .ref 1000, .ref 70, .int v])) (hp' := hp1) zfL_535 (fun _ => rfl) (Nat.le_refl _) ?_
  refine r_s (fr' := (537, [(3, .int 0), (2, .ref 70), (1, .ref 0), (0, .ref 1000)], [.int (0 + 1), .ref 1000, .ref 70, .int v])) (hp' := hp1) zfL_536 (fun _ => rfl) (Nat.le_refl _) ?_
  refine r_scr (n := 1) zfL_537 (by decide) (by decide) ?_
  show zR _ _ _ _ _ (538, [(3, .int 0), (2, .ref 70), (1, .ref 0), (0, .ref 1000)], [.int (xs 1), .ref 70, .int v]) hp1 _
  refine r_s (fr' := (539, [(3, .int 0), (2, .ref 70), (1, .ref 0), (0, .ref 1000)], [.ref 1000, .int (xs 1), .ref 70, .int v])) (hp' := hp1) zfL_538 (fun _ => rfl) (Nat.le_refl _) ?_
  refine r_s (fr' := (540, [(3, .int 0), (2, .ref 70), (1, .ref 0), (0, .ref 1000)], [.int 0, .ref 1000, .int (xs 1), .ref 70, .int v])) (hp' := hp1) zfL_539 (fun _ => rfl) (Nat.le_refl _) ?_
  refine r_s (fr' := (541, [(3, .int 0), (2, .ref 70), (1, .ref 0), (0, .ref 1000)], [.int 2, .int 0, .ref 1000, .int (xs 1), .ref 70, .int v])) (hp' := hp1) zfL_540 (fun _ => rfl) (Nat.le_refl _) ?_
  refine r_s (fr' := (542, [(3, .int 0), (2, .ref 70), (1, .ref 0), (0, .ref 1000)], [.int (0 + 2), .ref 1000, .int (xs 1), .ref 70, .int v])) (hp' := hp1) zfL_541 (fun _ => rfl) (Nat.le_refl _) ?_
  refine r_scr (n := 2) zfL_542 (by decide) (by decide) ?_
  show zR _ _ _ _ _ (543, [(3, .int 0), (2, .ref 70), (1, .ref 0), (0, .ref 1000)], [.int (xs 2), .int (xs 1), .ref 70, .int v]) hp1 _
  refine r_call (ix := 70) (as := [.int (xs 1), .int (xs 2)]) (rest := [.int v]) (rv := some (.int v)) (hp' := hp2) zfL_543 har232 rfl rfl rfl q1 (Nat.le_of_ble_eq_true rfl) k2 m2 ?_
  show zR _ _ _ _ _ (546, [(3, .int 0), (2, .ref 70), (1, .ref 0), (0, .ref 1000)], [.int v, .int v]) hp2 _
  refine r_ifc zfL_546 (fun _ => ?_) (fun h => absurd h (by simp [zcmp]))
  exact K
theorem zLk_13 {hp : zHp} (F : zFr0 hp) (xs : Nat → Int32) : ∃ hp2 : zHp, hp2.1 ≤ 2000 ∧ ∀ r, zR (some (6, xs)) 20 4 ret zcL (1041, [(3, .int 0), (2, .ref 70), (1, .ref 0), (0, .ref 1000)], []) hp2 r → zR (some (6, xs)) 20 4 ret zcL (551, [(3, .int 0), (2, .ref 70), (1, .ref 0), (0, .ref 1000)], []) hp r := by
  obtain ⟨v, hp1, hp2, k1, m1, q1, k2, m2, mm⟩ := zK_13 F 
  refine ⟨hp2, mm, fun r K => ?_⟩
  refine r_s (fr' := (552, [(3, .int 0), (2, .ref 70), (1, .ref 0), (0, .ref 1000)], [.ref 0])) (hp' := hp) zfL_551 (fun _ => rfl) (Nat.le_refl _) ?_
  refine r_call (ix := 0) (as := []) (rest := []) (rv := some (.int v)) (hp' := hp1) zfL_552 har137 rfl rfl rfl (hk0 F) (Nat.le_of_ble_eq_true rfl) k1 m1 ?_
  show zR _ _ _ _ _ (555, [(3, .int 0), (2, .ref 70), (1, .ref 0), (0, .ref 1000)], [.int v]) hp1 _
  refine r_s (fr' := (556, [(3, .int 0), (2, .ref 70), (1, .ref 0), (0, .ref 1000)], [.ref 70, .int v])) (hp' := hp1) zfL_555 (fun _ => rfl) (Nat.le_refl _) ?_
  refine r_call (ix := 70) (as := []) (rest := [.int v]) (rv := some (.int v)) (hp' := hp2) zfL_556 har234 rfl rfl rfl q1 (Nat.le_of_ble_eq_true rfl) k2 m2 ?_
  show zR _ _ _ _ _ (559, [(3, .int 0), (2, .ref 70), (1, .ref 0), (0, .ref 1000)], [.int v, .int v]) hp2 _
  refine r_ifc zfL_559 (fun _ => ?_) (fun h => absurd h (by simp [zcmp]))
  exact K
theorem zLk_14 {hp : zHp} (F : zFr0 hp) (xs : Nat → Int32) : ∃ hp2 : zHp, hp2.1 ≤ 2000 ∧ ∀ r, zR (some (6, xs)) 20 4 ret zcL (1041, [(3, .int 0), (2, .ref 70), (1, .ref 0), (0, .ref 1000)], []) hp2 r → zR (some (6, xs)) 20 4 ret zcL (564, [(3, .int 0), (2, .ref 70), (1, .ref 0), (0, .ref 1000)], []) hp r := by
  obtain ⟨v, hp1, hp2, k1, m1, q1, k2, m2, mm⟩ := zK_14 F 
  refine ⟨hp2, mm, fun r K => ?_⟩
  refine r_s (fr' := (565, [(3, .int 0), (2, .ref 70), (1, .ref 0), (0, .ref 1000)], [.ref 0])) (hp' := hp) zfL_564 (fun _ => rfl) (Nat.le_refl _) ?_
  refine r_call (ix := 0) (as := []) (rest := []) (rv := some (.int v)) (hp' := hp1) zfL_565 har138 rfl rfl rfl (hk0 F) (Nat.le_of_ble_eq_true rfl) k1 m1 ?_
  show zR _ _ _ _ _ (568, [(3, .int 0), (2, .ref 70), (1, .ref 0), (0, .ref 1000)], [.int v]) hp1 _
  refine r_s (fr' := (569, [(3, .int 0), (2, .ref 70), (1, .ref 0), (0, .ref 1000)], [.ref 70, .int v])) (hp' := hp1) zfL_568 (fun _ => rfl) (Nat.le_refl _) ?_
  refine r_call (ix := 70) (as := []) (rest := [.int v]) (rv := some (.int v)) (hp' := hp2) zfL_569 har221 rfl rfl rfl q1 (Nat.le_of_ble_eq_true rfl) k2 m2 ?_
  show zR _ _ _ _ _ (572, [(3, .int 0), (2, .ref 70), (1, .ref 0), (0, .ref 1000)], [.int v, .int v]) hp2 _
  refine r_ifc zfL_572 (fun _ => ?_) (fun h => absurd h (by simp [zcmp]))
  exact K
theorem zLk_15 {hp : zHp} (F : zFr0 hp) (xs : Nat → Int32) : ∃ hp2 : zHp, hp2.1 ≤ 2000 ∧ ∀ r, zR (some (6, xs)) 20 4 ret zcL (1041, [(3, .int 0), (2, .ref 70), (1, .ref 0), (0, .ref 1000)], []) hp2 r → zR (some (6, xs)) 20 4 ret zcL (577, [(3, .int 0), (2, .ref 70), (1, .ref 0), (0, .ref 1000)], []) hp r := by
  obtain ⟨v, hp1, hp2, k1, m1, q1, k2, m2, mm⟩ := zK_15 F (xs 1) (xs 2)
  refine ⟨hp2, mm, fun r K => ?_⟩
  refine r_s (fr' := (578, [(3, .int 0), (2, .ref 70), (1, .ref 0), (0, .ref 1000)], [.ref 0])) (hp' := hp) zfL_577 (fun _ => rfl) (Nat.le_refl _) ?_
  refine r_s (fr' := (579, [(3, .int 0), (2, .ref 70), (1, .ref 0), (0, .ref 1000)], [.ref 1000, .ref 0])) (hp' := hp) zfL_578 (fun _ => rfl) (Nat.le_refl _) ?_
  refine r_s (fr' := (580, [(3, .int 0), (2, .ref 70), (1, .ref 0), (0, .ref 1000)], [.int 0, .ref 1000, .ref 0])) (hp' := hp) zfL_579 (fun _ => rfl) (Nat.le_refl _) ?_
  refine r_s (fr' := (581, [(3, .int 0), (2, .ref 70), (1, .ref 0), (0, .ref 1000)], [.int 1, .int 0, .ref 1000, .ref 0])) (hp' := hp) zfL_580 (fun _ => rfl) (Nat.le_refl _) ?_
  refine r_s (fr' := (582, [(3, .int 0), (2, .ref 70), (1, .ref 0), (0, .ref 1000)], [.int (0 + 1), .ref 1000, .ref 0])) (hp' := hp) zfL_581 (fun _ => rfl) (Nat.le_refl _) ?_
  refine r_scr (n := 1) zfL_582 (by decide) (by decide) ?_
  show zR _ _ _ _ _ (583, [(3, .int 0), (2, .ref 70), (1, .ref 0), (0, .ref 1000)], [.int (xs 1), .ref 0]) hp _
  refine r_s (fr' := (584, [(3, .int 0), (2, .ref 70), (1, .ref 0), (0, .ref 1000)], [.ref 1000, .int (xs 1), .ref 0])) (hp' := hp) zfL_583 (fun _ => rfl) (Nat.le_refl _) ?_
  refine r_s (fr' := (585, [(3, .int 0), (2, .ref 70), (1, .ref 0), (0, .ref 1000)], [.int 0, .ref 1000, .int (xs 1), .ref 0])) (hp' := hp) zfL_584 (fun _ => rfl) (Nat.le_refl _) ?_
  refine r_s (fr' := (586, [(3, .int 0), (2, .ref 70), (1, .ref 0), (0, .ref 1000)], [.int 2, .int 0, .ref 1000, .int (xs 1), .ref 0])) (hp' := hp) zfL_585 (fun _ => rfl) (Nat.le_refl _) ?_
  refine r_s (fr' := (587, [(3, .int 0), (2, .ref 70), (1, .ref 0), (0, .ref 1000)], [.int (0 + 2), .ref 1000, .int (xs 1), .ref 0])) (hp' := hp) zfL_586 (fun _ => rfl) (Nat.le_refl _) ?_
  refine r_scr (n := 2) zfL_587 (by decide) (by decide) ?_
  show zR _ _ _ _ _ (588, [(3, .int 0), (2, .ref 70), (1, .ref 0), (0, .ref 1000)], [.int (xs 2), .int (xs 1), .ref 0]) hp _
  refine r_call (ix := 0) (as := [.int (xs 1), .int (xs 2)]) (rest := []) (rv := some (.int v)) (hp' := hp1) zfL_588 har139 rfl rfl rfl (hk0 F) (Nat.le_of_ble_eq_true rfl) k1 m1 ?_
  show zR _ _ _ _ _ (591, [(3, .int 0), (2, .ref 70), (1, .ref 0), (0, .ref 1000)], [.int v]) hp1 _
  refine r_s (fr' := (592, [(3, .int 0), (2, .ref 70), (1, .ref 0), (0, .ref 1000)], [.ref 70, .int v])) (hp' := hp1) zfL_591 (fun _ => rfl) (Nat.le_refl _) ?_
  refine r_s (fr' := (593, [(3, .int 0), (2, .ref 70), (1, .ref 0), (0, .ref 1000)], [.ref 1000, .ref 70, .int v])) (hp' := hp1) zfL_592 (fun _ => rfl) (Nat.le_refl _) ?_
  refine r_s (fr' := (594, [(3, .int 0), (2, .ref 70), (1, .ref 0), (0, .ref 1000)], [.int 0, .ref 1000, .ref 70, .int v])) (hp' := hp1) zfL_593 (fun _ => rfl) (Nat.le_refl _) ?_
  refine r_s (fr' := (595, [(3, .int 0), (2, .ref 70), (1, .ref 0), (0, .ref 1000)], [.int 1, .int 0, .ref 1000, .ref 70, .int v])) (hp' := hp1) zfL_594 (fun _ => rfl) (Nat.le_refl _) ?_
  refine r_s (fr' := (596, [(3, .int 0), (2, .ref 70), (1, .ref 0), (0, .ref 1000)], [.int (0 + 1), .ref 1000, .ref 70, .int v])) (hp' := hp1) zfL_595 (fun _ => rfl) (Nat.le_refl _) ?_
  refine r_scr (n := 1) zfL_596 (by decide) (by decide) ?_
  show zR _ _ _ _ _ (597, [(3, .int 0), (2, .ref 70), (1, .ref 0), (0, .ref 1000)], [.int (xs 1), .ref 70, .int v]) hp1 _
  refine r_s (fr' := (598, [(3, .int 0), (2, .ref 70), (1, .ref 0), (0, .ref 1000)], [.ref 1000, .int (xs 1), .ref 70, .int v])) (hp' := hp1) zfL_597 (fun _ => rfl) (Nat.le_refl _) ?_
  refine r_s (fr' := (599, [(3, .int 0), (2, .ref 70), (1, .ref 0), (0, .ref 1000)], [.int 0, .ref 1000, .int (xs 1), .ref 70, .int v])) (hp' := hp1) zfL_598 (fun _ => rfl) (Nat.le_refl _) ?_
  refine r_s (fr' := (600, [(3, .int 0), (2, .ref 70), (1, .ref 0), (0, .ref 1000)], [.int 2, .int 0, .ref 1000, .int (xs 1), .ref 70, .int v])) (hp' := hp1) zfL_599 (fun _ => rfl) (Nat.le_refl _) ?_
  refine r_s (fr' := (601, [(3, .int 0), (2, .ref 70), (1, .ref 0), (0, .ref 1000)], [.int (0 + 2), .ref 1000, .int (xs 1), .ref 70, .int v])) (hp' := hp1) zfL_600 (fun _ => rfl) (Nat.le_refl _) ?_
  refine r_scr (n := 2) zfL_601 (by decide) (by decide) ?_
  show zR _ _ _ _ _ (602, [(3, .int 0), (2, .ref 70), (1, .ref 0), (0, .ref 1000)], [.int (xs 2), .int (xs 1), .ref 70, .int v]) hp1 _
  refine r_call (ix := 70) (as := [.int (xs 1), .int (xs 2)]) (rest := [.int v]) (rv := some (.int v)) (hp' := hp2) zfL_602 har248 rfl rfl rfl q1 (Nat.le_of_ble_eq_true rfl) k2 m2 ?_
  show zR _ _ _ _ _ (605, [(3, .int 0), (2, .ref 70), (1, .ref 0), (0, .ref 1000)], [.int v, .int v]) hp2 _
  refine r_ifc zfL_605 (fun _ => ?_) (fun h => absurd h (by simp [zcmp]))
  exact K
theorem zLk_16 {hp : zHp} (F : zFr0 hp) (xs : Nat → Int32) : ∃ hp2 : zHp, hp2.1 ≤ 2000 ∧ ∀ r, zR (some (6, xs)) 20 4 ret zcL (1041, [(3, .int 0), (2, .ref 70), (1, .ref 0), (0, .ref 1000)], []) hp2 r → zR (some (6, xs)) 20 4 ret zcL (610, [(3, .int 0), (2, .ref 70), (1, .ref 0), (0, .ref 1000)], []) hp r := by
  by_cases hb : xs 3 = 0
  · obtain ⟨v, hp1, hp2, k1, m1, q1, k2, m2, mm⟩ := zK_16 F (xs 1) (xs 2) 0 (xs 4)
    refine ⟨hp2, mm, fun r K => ?_⟩
    refine r_s (fr' := (611, [(3, .int 0), (2, .ref 70), (1, .ref 0), (0, .ref 1000)], [.ref 0])) (hp' := hp) zfL_610 (fun _ => rfl) (Nat.le_refl _) ?_
    refine r_s (fr' := (612, [(3, .int 0), (2, .ref 70), (1, .ref 0), (0, .ref 1000)], [.ref 1000, .ref 0])) (hp' := hp) zfL_611 (fun _ => rfl) (Nat.le_refl _) ?_
    refine r_s (fr' := (613, [(3, .int 0), (2, .ref 70), (1, .ref 0), (0, .ref 1000)], [.int 0, .ref 1000, .ref 0])) (hp' := hp) zfL_612 (fun _ => rfl) (Nat.le_refl _) ?_
    refine r_s (fr' := (614, [(3, .int 0), (2, .ref 70), (1, .ref 0), (0, .ref 1000)], [.int 1, .int 0, .ref 1000, .ref 0])) (hp' := hp) zfL_613 (fun _ => rfl) (Nat.le_refl _) ?_
    refine r_s (fr' := (615, [(3, .int 0), (2, .ref 70), (1, .ref 0), (0, .ref 1000)], [.int (0 + 1), .ref 1000, .ref 0])) (hp' := hp) zfL_614 (fun _ => rfl) (Nat.le_refl _) ?_
    refine r_scr (n := 1) zfL_615 (by decide) (by decide) ?_
    show zR _ _ _ _ _ (616, [(3, .int 0), (2, .ref 70), (1, .ref 0), (0, .ref 1000)], [.int (xs 1), .ref 0]) hp _
    refine r_s (fr' := (617, [(3, .int 0), (2, .ref 70), (1, .ref 0), (0, .ref 1000)], [.ref 1000, .int (xs 1), .ref 0])) (hp' := hp) zfL_616 (fun _ => rfl) (Nat.le_refl _) ?_
    refine r_s (fr' := (618, [(3, .int 0), (2, .ref 70), (1, .ref 0), (0, .ref 1000)], [.int 0, .ref 1000, .int (xs 1), .ref 0])) (hp' := hp) zfL_617 (fun _ => rfl) (Nat.le_refl _) ?_
    refine r_s (fr' := (619, [(3, .int 0), (2, .ref 70), (1, .ref 0), (0, .ref 1000)], [.int 2, .int 0, .ref 1000, .int (xs 1), .ref 0])) (hp' := hp) zfL_618 (fun _ => rfl) (Nat.le_refl _) ?_
    refine r_s (fr' := (620, [(3, .int 0), (2, .ref 70), (1, .ref 0), (0, .ref 1000)], [.int (0 + 2), .ref 1000, .int (xs 1), .ref 0])) (hp' := hp) zfL_619 (fun _ => rfl) (Nat.le_refl _) ?_
    refine r_scr (n := 2) zfL_620 (by decide) (by decide) ?_
    show zR _ _ _ _ _ (621, [(3, .int 0), (2, .ref 70), (1, .ref 0), (0, .ref 1000)], [.int (xs 2), .int (xs 1), .ref 0]) hp _
    refine r_s (fr' := (622, [(3, .int 0), (2, .ref 70), (1, .ref 0), (0, .ref 1000)], [.ref 1000, .int (xs 2), .int (xs 1), .ref 0])) (hp' := hp) zfL_621 (fun _ => rfl) (Nat.le_refl _) ?_
    refine r_s (fr' := (623, [(3, .int 0), (2, .ref 70), (1, .ref 0), (0, .ref 1000)], [.int 0, .ref 1000, .int (xs 2), .int (xs 1), .ref 0])) (hp' := hp) zfL_622 (fun _ => rfl) (Nat.le_refl _) ?_
    refine r_s (fr' := (624, [(3, .int 0), (2, .ref 70), (1, .ref 0), (0, .ref 1000)], [.int 3, .int 0, .ref 1000, .int (xs 2), .int (xs 1), .ref 0])) (hp' := hp) zfL_623 (fun _ => rfl) (Nat.le_refl _) ?_
    refine r_s (fr' := (625, [(3, .int 0), (2, .ref 70), (1, .ref 0), (0, .ref 1000)], [.int (0 + 3), .ref 1000, .int (xs 2), .int (xs 1), .ref 0])) (hp' := hp) zfL_624 (fun _ => rfl) (Nat.le_refl _) ?_
    refine r_scr (n := 3) zfL_625 (by decide) (by decide) ?_
    show zR _ _ _ _ _ (626, [(3, .int 0), (2, .ref 70), (1, .ref 0), (0, .ref 1000)], [.int (xs 3), .int (xs 2), .int (xs 1), .ref 0]) hp _
    refine r_if zfL_626 (fun _ => ?_) (fun h => absurd h (by simp [zcmp, hb]))
    show zR _ _ _ _ _ (633, [(3, .int 0), (2, .ref 70), (1, .ref 0), (0, .ref 1000)], [.int (xs 2), .int (xs 1), .ref 0]) hp _
    refine r_s (fr' := (634, [(3, .int 0), (2, .ref 70), (1, .ref 0), (0, .ref 1000)], [.int 0, .int (xs 2), .int (xs 1), .ref 0])) (hp' := hp) zfL_633 (fun _ => rfl) (Nat.le_refl _) ?_
    refine r_s (fr' := (635, [(3, .int 0), (2, .ref 70), (1, .ref 0), (0, .ref 1000)], [.ref 1000, .int 0, .int (xs 2), .int (xs 1), .ref 0])) (hp' := hp) zfL_634 (fun _ => rfl) (Nat.le_refl _) ?_
    refine r_s (fr' := (636, [(3, .int 0), (2, .ref 70), (1, .ref 0), (0, .ref 1000)], [.int 0, .ref 1000, .int 0, .int (xs 2), .int (xs 1), .ref 0])) (hp' := hp) zfL_635 (fun _ => rfl) (Nat.le_refl _) ?_
    refine r_s (fr' := (637, [(3, .int 0), (2, .ref 70), (1, .ref 0), (0, .ref 1000)], [.int 4, .int 0, .ref 1000, .int 0, .int (xs 2), .int (xs 1), .ref 0])) (hp' := hp) zfL_636 (fun _ => rfl) (Nat.le_refl _) ?_
    refine r_s (fr' := (638, [(3, .int 0), (2, .ref 70), (1, .ref 0), (0, .ref 1000)], [.int (0 + 4), .ref 1000, .int 0, .int (xs 2), .int (xs 1), .ref 0])) (hp' := hp) zfL_637 (fun _ => rfl) (Nat.le_refl _) ?_
    refine r_scr (n := 4) zfL_638 (by decide) (by decide) ?_
    show zR _ _ _ _ _ (639, [(3, .int 0), (2, .ref 70), (1, .ref 0), (0, .ref 1000)], [.int (xs 4), .int 0, .int (xs 2), .int (xs 1), .ref 0]) hp _
    refine r_call (ix := 0) (as := [.int (xs 1), .int (xs 2), .int 0, .int (xs 4)]) (rest := []) (rv := some (.int v)) (hp' := hp1) zfL_639 har141 rfl rfl rfl (hk0 F) (Nat.le_of_ble_eq_true rfl) k1 m1 ?_
    show zR _ _ _ _ _ (642, [(3, .int 0), (2, .ref 70), (1, .ref 0), (0, .ref 1000)], [.int v]) hp1 _
    refine r_s (fr' := (643, [(3, .int 0), (2, .ref 70), (1, .ref 0), (0, .ref 1000)], [.ref 70, .int v])) (hp' := hp1) zfL_642 (fun _ => rfl) (Nat.le_refl _) ?_
    refine r_s (fr' := (644, [(3, .int 0), (2, .ref 70), (1, .ref 0), (0, .ref 1000)], [.ref 1000, .ref 70, .int v])) (hp' := hp1) zfL_643 (fun _ => rfl) (Nat.le_refl _) ?_
    refine r_s (fr' := (645, [(3, .int 0), (2, .ref 70), (1, .ref 0), (0, .ref 1000)], [.int 0, .ref 1000, .ref 70, .int v])) (hp' := hp1) zfL_644 (fun _ => rfl) (Nat.le_refl _) ?_
    refine r_s (fr' := (646, [(3, .int 0), (2, .ref 70), (1, .ref 0), (0, .ref 1000)], [.int 1, .int 0, .ref 1000, .ref 70, .int v])) (hp' := hp1) zfL_645 (fun _ => rfl) (Nat.le_refl _) ?_
    refine r_s (fr' := (647, [(3, .int 0), (2, .ref 70), (1, .ref 0), (0, .ref 1000)], [.int (0 + 1), .ref 1000, .ref 70, .int v])) (hp' := hp1) zfL_646 (fun _ => rfl) (Nat.le_refl _) ?_
    refine r_scr (n := 1) zfL_647 (by decide) (by decide) ?_
    show zR _ _ _ _ _ (648, [(3, .int 0), (2, .ref 70), (1, .ref 0), (0, .ref 1000)], [.int (xs 1), .ref 70, .int v]) hp1 _
    refine r_s (fr' := (649, [(3, .int 0), (2, .ref 70), (1, .ref 0), (0, .ref 1000)], [.ref 1000, .int (xs 1), .ref 70, .int v])) (hp' := hp1) zfL_648 (fun _ => rfl) (Nat.le_refl _) ?_
    refine r_s (fr' := (650, [(3, .int 0), (2, .ref 70), (1, .ref 0), (0, .ref 1000)], [.int 0, .ref 1000, .int (xs 1), .ref 70, .int v])) (hp' := hp1) zfL_649 (fun _ => rfl) (Nat.le_refl _) ?_
    refine r_s (fr' := (651, [(3, .int 0), (2, .ref 70), (1, .ref 0), (0, .ref 1000)], [.int 2, .int 0, .ref 1000, .int (xs 1), .ref 70, .int v])) (hp' := hp1) zfL_650 (fun _ => rfl) (Nat.le_refl _) ?_
    refine r_s (fr' := (652, [(3, .int 0), (2, .ref 70), (1, .ref 0), (0, .ref 1000)], [.int (0 + 2), .ref 1000, .int (xs 1), .ref 70, .int v])) (hp' := hp1) zfL_651 (fun _ => rfl) (Nat.le_refl _) ?_
    refine r_scr (n := 2) zfL_652 (by decide) (by decide) ?_
    show zR _ _ _ _ _ (653, [(3, .int 0), (2, .ref 70), (1, .ref 0), (0, .ref 1000)], [.int (xs 2), .int (xs 1), .ref 70, .int v]) hp1 _
    refine r_s (fr' := (654, [(3, .int 0), (2, .ref 70), (1, .ref 0), (0, .ref 1000)], [.ref 1000, .int (xs 2), .int (xs 1), .ref 70, .int v])) (hp' := hp1) zfL_653 (fun _ => rfl) (Nat.le_refl _) ?_
    refine r_s (fr' := (655, [(3, .int 0), (2, .ref 70), (1, .ref 0), (0, .ref 1000)], [.int 0, .ref 1000, .int (xs 2), .int (xs 1), .ref 70, .int v])) (hp' := hp1) zfL_654 (fun _ => rfl) (Nat.le_refl _) ?_
    refine r_s (fr' := (656, [(3, .int 0), (2, .ref 70), (1, .ref 0), (0, .ref 1000)], [.int 3, .int 0, .ref 1000, .int (xs 2), .int (xs 1), .ref 70, .int v])) (hp' := hp1) zfL_655 (fun _ => rfl) (Nat.le_refl _) ?_
    refine r_s (fr' := (657, [(3, .int 0), (2, .ref 70), (1, .ref 0), (0, .ref 1000)], [.int (0 + 3), .ref 1000, .int (xs 2), .int (xs 1), .ref 70, .int v])) (hp' := hp1) zfL_656 (fun _ => rfl) (Nat.le_refl _) ?_
    refine r_scr (n := 3) zfL_657 (by decide) (by decide) ?_
    show zR _ _ _ _ _ (658, [(3, .int 0), (2, .ref 70), (1, .ref 0), (0, .ref 1000)], [.int (xs 3), .int (xs 2), .int (xs 1), .ref 70, .int v]) hp1 _
    refine r_if zfL_658 (fun _ => ?_) (fun h => absurd h (by simp [zcmp, hb]))
    show zR _ _ _ _ _ (665, [(3, .int 0), (2, .ref 70), (1, .ref 0), (0, .ref 1000)], [.int (xs 2), .int (xs 1), .ref 70, .int v]) hp1 _
    refine r_s (fr' := (666, [(3, .int 0), (2, .ref 70), (1, .ref 0), (0, .ref 1000)], [.int 0, .int (xs 2), .int (xs 1), .ref 70, .int v])) (hp' := hp1) zfL_665 (fun _ => rfl) (Nat.le_refl _) ?_
    refine r_s (fr' := (667, [(3, .int 0), (2, .ref 70), (1, .ref 0), (0, .ref 1000)], [.ref 1000, .int 0, .int (xs 2), .int (xs 1), .ref 70, .int v])) (hp' := hp1) zfL_666 (fun _ => rfl) (Nat.le_refl _) ?_
    refine r_s (fr' := (668, [(3, .int 0), (2, .ref 70), (1, .ref 0), (0, .ref 1000)], [.int 0, .ref 1000, .int 0, .int (xs 2), .int (xs 1), .ref 70, .int v])) (hp' := hp1) zfL_667 (fun _ => rfl) (Nat.le_refl _) ?_
    refine r_s (fr' := (669, [(3, .int 0), (2, .ref 70), (1, .ref 0), (0, .ref 1000)], [.int 4, .int 0, .ref 1000, .int 0, .int (xs 2), .int (xs 1), .ref 70, .int v])) (hp' := hp1) zfL_668 (fun _ => rfl) (Nat.le_refl _) ?_
    refine r_s (fr' := (670, [(3, .int 0), (2, .ref 70), (1, .ref 0), (0, .ref 1000)], [.int (0 + 4), .ref 1000, .int 0, .int (xs 2), .int (xs 1), .ref 70, .int v])) (hp' := hp1) zfL_669 (fun _ => rfl) (Nat.le_refl _) ?_
    refine r_scr (n := 4) zfL_670 (by decide) (by decide) ?_
    show zR _ _ _ _ _ (671, [(3, .int 0), (2, .ref 70), (1, .ref 0), (0, .ref 1000)], [.int (xs 4), .int 0, .int (xs 2), .int (xs 1), .ref 70, .int v]) hp1 _
    refine r_call (ix := 70) (as := [.int (xs 1), .int (xs 2), .int 0, .int (xs 4)]) (rest := [.int v]) (rv := some (.int v)) (hp' := hp2) zfL_671 har252 rfl rfl rfl q1 (Nat.le_of_ble_eq_true rfl) k2 m2 ?_
    show zR _ _ _ _ _ (674, [(3, .int 0), (2, .ref 70), (1, .ref 0), (0, .ref 1000)], [.int v, .int v]) hp2 _
    refine r_ifc zfL_674 (fun _ => ?_) (fun h => absurd h (by simp [zcmp]))
    exact K
  · obtain ⟨v, hp1, hp2, k1, m1, q1, k2, m2, mm⟩ := zK_16 F (xs 1) (xs 2) 1 (xs 4)
    refine ⟨hp2, mm, fun r K => ?_⟩
    refine r_s (fr' := (611, [(3, .int 0), (2, .ref 70), (1, .ref 0), (0, .ref 1000)], [.ref 0])) (hp' := hp) zfL_610 (fun _ => rfl) (Nat.le_refl _) ?_
    refine r_s (fr' := (612, [(3, .int 0), (2, .ref 70), (1, .ref 0), (0, .ref 1000)], [.ref 1000, .ref 0])) (hp' := hp) zfL_611 (fun _ => rfl) (Nat.le_refl _) ?_
    refine r_s (fr' := (613, [(3, .int 0), (2, .ref 70), (1, .ref 0), (0, .ref 1000)], [.int 0, .ref 1000, .ref 0])) (hp' := hp) zfL_612 (fun _ => rfl) (Nat.le_refl _) ?_
    refine r_s (fr' := (614, [(3, .int 0), (2, .ref 70), (1, .ref 0), (0, .ref 1000)], [.int 1, .int 0, .ref 1000, .ref 0])) (hp' := hp) zfL_613 (fun _ => rfl) (Nat.le_refl _) ?_
    refine r_s (fr' := (615, [(3, .int 0), (2, .ref 70), (1, .ref 0), (0, .ref 1000)], [.int (0 + 1), .ref 1000, .ref 0])) (hp' := hp) zfL_614 (fun _ => rfl) (Nat.le_refl _) ?_
    refine r_scr (n := 1) zfL_615 (by decide) (by decide) ?_
    show zR _ _ _ _ _ (616, [(3, .int 0), (2, .ref 70), (1, .ref 0), (0, .ref 1000)], [.int (xs 1), .ref 0]) hp _
    refine r_s (fr' := (617, [(3, .int 0), (2, .ref 70), (1, .ref 0), (0, .ref 1000)], [.ref 1000, .int (xs 1), .ref 0])) (hp' := hp) zfL_616 (fun _ => rfl) (Nat.le_refl _) ?_
    refine r_s (fr' := (618, [(3, .int 0), (2, .ref 70), (1, .ref 0), (0, .ref 1000)], [.int 0, .ref 1000, .int (xs 1), .ref 0])) (hp' := hp) zfL_617 (fun _ => rfl) (Nat.le_refl _) ?_
    refine r_s (fr' := (619, [(3, .int 0), (2, .ref 70), (1, .ref 0), (0, .ref 1000)], [.int 2, .int 0, .ref 1000, .int (xs 1), .ref 0])) (hp' := hp) zfL_618 (fun _ => rfl) (Nat.le_refl _) ?_
    refine r_s (fr' := (620, [(3, .int 0), (2, .ref 70), (1, .ref 0), (0, .ref 1000)], [.int (0 + 2), .ref 1000, .int (xs 1), .ref 0])) (hp' := hp) zfL_619 (fun _ => rfl) (Nat.le_refl _) ?_
    refine r_scr (n := 2) zfL_620 (by decide) (by decide) ?_
    show zR _ _ _ _ _ (621, [(3, .int 0), (2, .ref 70), (1, .ref 0), (0, .ref 1000)], [.int (xs 2), .int (xs 1), .ref 0]) hp _
    refine r_s (fr' := (622, [(3, .int 0), (2, .ref 70), (1, .ref 0), (0, .ref 1000)], [.ref 1000, .int (xs 2), .int (xs 1), .ref 0])) (hp' := hp) zfL_621 (fun _ => rfl) (Nat.le_refl _) ?_
    refine r_s (fr' := (623, [(3, .int 0), (2, .ref 70), (1, .ref 0), (0, .ref 1000)], [.int 0, .ref 1000, .int (xs 2), .int (xs 1), .ref 0])) (hp' := hp) zfL_622 (fun _ => rfl) (Nat.le_refl _) ?_
    refine r_s (fr' := (624, [(3, .int 0), (2, .ref 70), (1, .ref 0), (0, .ref 1000)], [.int 3, .int 0, .ref 1000, .int (xs 2), .int (xs 1), .ref 0])) (hp' := hp) zfL_623 (fun _ => rfl) (Nat.le_refl _) ?_
    refine r_s (fr' := (625, [(3, .int 0), (2, .ref 70), (1, .ref 0), (0, .ref 1000)], [.int (0 + 3), .ref 1000, .int (xs 2), .int (xs 1), .ref 0])) (hp' := hp) zfL_624 (fun _ => rfl) (Nat.le_refl _) ?_
    refine r_scr (n := 3) zfL_625 (by decide) (by decide) ?_
    show zR _ _ _ _ _ (626, [(3, .int 0), (2, .ref 70), (1, .ref 0), (0, .ref 1000)], [.int (xs 3), .int (xs 2), .int (xs 1), .ref 0]) hp _
    refine r_if zfL_626 (fun h => absurd h (by simp [zcmp, hb])) (fun _ => ?_)
    show zR _ _ _ _ _ (629, [(3, .int 0), (2, .ref 70), (1, .ref 0), (0, .ref 1000)], [.int (xs 2), .int (xs 1), .ref 0]) hp _
    refine r_s (fr' := (630, [(3, .int 0), (2, .ref 70), (1, .ref 0), (0, .ref 1000)], [.int 1, .int (xs 2), .int (xs 1), .ref 0])) (hp' := hp) zfL_629 (fun _ => rfl) (Nat.le_refl _) ?_
    refine r_s (fr' := (634, [(3, .int 0), (2, .ref 70), (1, .ref 0), (0, .ref 1000)], [.int 1, .int (xs 2), .int (xs 1), .ref 0])) (hp' := hp) zfL_630 (fun _ => rfl) (Nat.le_refl _) ?_
    refine r_s (fr' := (635, [(3, .int 0), (2, .ref 70), (1, .ref 0), (0, .ref 1000)], [.ref 1000, .int 1, .int (xs 2), .int (xs 1), .ref 0])) (hp' := hp) zfL_634 (fun _ => rfl) (Nat.le_refl _) ?_
    refine r_s (fr' := (636, [(3, .int 0), (2, .ref 70), (1, .ref 0), (0, .ref 1000)], [.int 0, .ref 1000, .int 1, .int (xs 2), .int (xs 1), .ref 0])) (hp' := hp) zfL_635 (fun _ => rfl) (Nat.le_refl _) ?_
    refine r_s (fr' := (637, [(3, .int 0), (2, .ref 70), (1, .ref 0), (0, .ref 1000)], [.int 4, .int 0, .ref 1000, .int 1, .int (xs 2), .int (xs 1), .ref 0])) (hp' := hp) zfL_636 (fun _ => rfl) (Nat.le_refl _) ?_
    refine r_s (fr' := (638, [(3, .int 0), (2, .ref 70), (1, .ref 0), (0, .ref 1000)], [.int (0 + 4), .ref 1000, .int 1, .int (xs 2), .int (xs 1), .ref 0])) (hp' := hp) zfL_637 (fun _ => rfl) (Nat.le_refl _) ?_
    refine r_scr (n := 4) zfL_638 (by decide) (by decide) ?_
    show zR _ _ _ _ _ (639, [(3, .int 0), (2, .ref 70), (1, .ref 0), (0, .ref 1000)], [.int (xs 4), .int 1, .int (xs 2), .int (xs 1), .ref 0]) hp _
    refine r_call (ix := 0) (as := [.int (xs 1), .int (xs 2), .int 1, .int (xs 4)]) (rest := []) (rv := some (.int v)) (hp' := hp1) zfL_639 har141 rfl rfl rfl (hk0 F) (Nat.le_of_ble_eq_true rfl) k1 m1 ?_
    show zR _ _ _ _ _ (642, [(3, .int 0), (2, .ref 70), (1, .ref 0), (0, .ref 1000)], [.int v]) hp1 _
    refine r_s (fr' := (643, [(3, .int 0), (2, .ref 70), (1, .ref 0), (0, .ref 1000)], [.ref 70, .int v])) (hp' := hp1) zfL_642 (fun _ => rfl) (Nat.le_refl _) ?_
    refine r_s (fr' := (644, [(3, .int 0), (2, .ref 70), (1, .ref 0), (0, .ref 1000)], [.ref 1000, .ref 70, .int v])) (hp' := hp1) zfL_643 (fun _ => rfl) (Nat.le_refl _) ?_
    refine r_s (fr' := (645, [(3, .int 0), (2, .ref 70), (1, .ref 0), (0, .ref 1000)], [.int 0, .ref 1000, .ref 70, .int v])) (hp' := hp1) zfL_644 (fun _ => rfl) (Nat.le_refl _) ?_
    refine r_s (fr' := (646, [(3, .int 0), (2, .ref 70), (1, .ref 0), (0, .ref 1000)], [.int 1, .int 0, .ref 1000, .ref 70, .int v])) (hp' := hp1) zfL_645 (fun _ => rfl) (Nat.le_refl _) ?_
    refine r_s (fr' := (647, [(3, .int 0), (2, .ref 70), (1, .ref 0), (0, .ref 1000)], [.int (0 + 1), .ref 1000, .ref 70, .int v])) (hp' := hp1) zfL_646 (fun _ => rfl) (Nat.le_refl _) ?_
    refine r_scr (n := 1) zfL_647 (by decide) (by decide) ?_
    show zR _ _ _ _ _ (648, [(3, .int 0), (2, .ref 70), (1, .ref 0), (0, .ref 1000)], [.int (xs 1), .ref 70, .int v]) hp1 _
    refine r_s (fr' := (649, [(3, .int 0), (2, .ref 70), (1, .ref 0), (0, .ref 1000)], [.ref 1000, .int (xs 1), .ref 70, .int v])) (hp' := hp1) zfL_648 (fun _ => rfl) (Nat.le_refl _) ?_
    refine r_s (fr' := (650, [(3, .int 0), (2, .ref 70), (1, .ref 0), (0, .ref 1000)], [.int 0, .ref 1000, .int (xs 1), .ref 70, .int v])) (hp' := hp1) zfL_649 (fun _ => rfl) (Nat.le_refl _) ?_
    refine r_s (fr' := (651, [(3, .int 0), (2, .ref 70), (1, .ref 0), (0, .ref 1000)], [.int 2, .int 0, .ref 1000, .int (xs 1), .ref 70, .int v])) (hp' := hp1) zfL_650 (fun _ => rfl) (Nat.le_refl _) ?_
    refine r_s (fr' := (652, [(3, .int 0), (2, .ref 70), (1, .ref 0), (0, .ref 1000)], [.int (0 + 2), .ref 1000, .int (xs 1), .ref 70, .int v])) (hp' := hp1) zfL_651 (fun _ => rfl) (Nat.le_refl _) ?_
    refine r_scr (n := 2) zfL_652 (by decide) (by decide) ?_
    show zR _ _ _ _ _ (653, [(3, .int 0), (2, .ref 70), (1, .ref 0), (0, .ref 1000)], [.int (xs 2), .int (xs 1), .ref 70, .int v]) hp1 _
    refine r_s (fr' := (654, [(3, .int 0), (2, .ref 70), (1, .ref 0), (0, .ref 1000)], [.ref 1000, .int (xs 2), .int (xs 1), .ref 70, .int v])) (hp' := hp1) zfL_653 (fun _ => rfl) (Nat.le_refl _) ?_
    refine r_s (fr' := (655, [(3, .int 0), (2, .ref 70), (1, .ref 0), (0, .ref 1000)], [.int 0, .ref 1000, .int (xs 2), .int (xs 1), .ref 70, .int v])) (hp' := hp1) zfL_654 (fun _ => rfl) (Nat.le_refl _) ?_
    refine r_s (fr' := (656, [(3, .int 0), (2, .ref 70), (1, .ref 0), (0, .ref 1000)], [.int 3, .int 0, .ref 1000, .int (xs 2), .int (xs 1), .ref 70, .int v])) (hp' := hp1) zfL_655 (fun _ => rfl) (Nat.le_refl _) ?_
    refine r_s (fr' := (657, [(3, .int 0), (2, .ref 70), (1, .ref 0), (0, .ref 1000)], [.int (0 + 3), .ref 1000, .int (xs 2), .int (xs 1), .ref 70, .int v])) (hp' := hp1) zfL_656 (fun _ => rfl) (Nat.le_refl _) ?_
    refine r_scr (n := 3) zfL_657 (by decide) (by decide) ?_
    show zR _ _ _ _ _ (658, [(3, .int 0), (2, .ref 70), (1, .ref 0), (0, .ref 1000)], [.int (xs 3), .int (xs 2), .int (xs 1), .ref 70, .int v]) hp1 _
    refine r_if zfL_658 (fun h => absurd h (by simp [zcmp, hb])) (fun _ => ?_)
    show zR _ _ _ _ _ (661, [(3, .int 0), (2, .ref 70), (1, .ref 0), (0, .ref 1000)], [.int (xs 2), .int (xs 1), .ref 70, .int v]) hp1 _
    refine r_s (fr' := (662, [(3, .int 0), (2, .ref 70), (1, .ref 0), (0, .ref 1000)], [.int 1, .int (xs 2), .int (xs 1), .ref 70, .int v])) (hp' := hp1) zfL_661 (fun _ => rfl) (Nat.le_refl _) ?_
    refine r_s (fr' := (666, [(3, .int 0), (2, .ref 70), (1, .ref 0), (0, .ref 1000)], [.int 1, .int (xs 2), .int (xs 1), .ref 70, .int v])) (hp' := hp1) zfL_662 (fun _ => rfl) (Nat.le_refl _) ?_
    refine r_s (fr' := (667, [(3, .int 0), (2, .ref 70), (1, .ref 0), (0, .ref 1000)], [.ref 1000, .int 1, .int (xs 2), .int (xs 1), .ref 70, .int v])) (hp' := hp1) zfL_666 (fun _ => rfl) (Nat.le_refl _) ?_
    refine r_s (fr' := (668, [(3, .int 0), (2, .ref 70), (1, .ref 0), (0, .ref 1000)], [.int 0, .ref 1000, .int 1, .int (xs 2), .int (xs 1), .ref 70, .int v])) (hp' := hp1) zfL_667 (fun _ => rfl) (Nat.le_refl _) ?_
    refine r_s (fr' := (669, [(3, .int 0), (2, .ref 70), (1, .ref 0), (0, .ref 1000)], [.int 4, .int 0, .ref 1000, .int 1, .int (xs 2), .int (xs 1), .ref 70, .int v])) (hp' := hp1) zfL_668 (fun _ => rfl) (Nat.le_refl _) ?_
    refine r_s (fr' := (670, [(3, .int 0), (2, .ref 70), (1, .ref 0), (0, .ref 1000)], [.int (0 + 4), .ref 1000, .int 1, .int (xs 2), .int (xs 1), .ref 70, .int v])) (hp' := hp1) zfL_669 (fun _ => rfl) (Nat.le_refl _) ?_
    refine r_scr (n := 4) zfL_670 (by decide) (by decide) ?_
    show zR _ _ _ _ _ (671, [(3, .int 0), (2, .ref 70), (1, .ref 0), (0, .ref 1000)], [.int (xs 4), .int 1, .int (xs 2), .int (xs 1), .ref 70, .int v]) hp1 _
    refine r_call (ix := 70) (as := [.int (xs 1), .int (xs 2), .int 1, .int (xs 4)]) (rest := [.int v]) (rv := some (.int v)) (hp' := hp2) zfL_671 har252 rfl rfl rfl q1 (Nat.le_of_ble_eq_true rfl) k2 m2 ?_
    show zR _ _ _ _ _ (674, [(3, .int 0), (2, .ref 70), (1, .ref 0), (0, .ref 1000)], [.int v, .int v]) hp2 _
    refine r_ifc zfL_674 (fun _ => ?_) (fun h => absurd h (by simp [zcmp]))
    exact K
theorem zLk_17 {hp : zHp} (F : zFr0 hp) (xs : Nat → Int32) : ∃ hp2 : zHp, hp2.1 ≤ 2000 ∧ ∀ r, zR (some (6, xs)) 20 4 ret zcL (1041, [(3, .int 0), (2, .ref 70), (1, .ref 0), (0, .ref 1000)], []) hp2 r → zR (some (6, xs)) 20 4 ret zcL (679, [(3, .int 0), (2, .ref 70), (1, .ref 0), (0, .ref 1000)], []) hp r := by
  obtain ⟨v, hp1, hp2, k1, m1, q1, k2, m2, mm⟩ := zK_17 F (xs 1)
  refine ⟨hp2, mm, fun r K => ?_⟩
  refine r_s (fr' := (680, [(3, .int 0), (2, .ref 70), (1, .ref 0), (0, .ref 1000)], [.ref 0])) (hp' := hp) zfL_679 (fun _ => rfl) (Nat.le_refl _) ?_
  refine r_s (fr' := (681, [(3, .int 0), (2, .ref 70), (1, .ref 0), (0, .ref 1000)], [.ref 1000, .ref 0])) (hp' := hp) zfL_680 (fun _ => rfl) (Nat.le_refl _) ?_
  refine r_s (fr' := (682, [(3, .int 0), (2, .ref 70), (1, .ref 0), (0, .ref 1000)], [.int 0, .ref 1000, .ref 0])) (hp' := hp) zfL_681 (fun _ => rfl) (Nat.le_refl _) ?_
  refine r_s (fr' := (683, [(3, .int 0), (2, .ref 70), (1, .ref 0), (0, .ref 1000)], [.int 1, .int 0, .ref 1000, .ref 0])) (hp' := hp) zfL_682 (fun _ => rfl) (Nat.le_refl _) ?_
  refine r_s (fr' := (684, [(3, .int 0), (2, .ref 70), (1, .ref 0), (0, .ref 1000)], [.int (0 + 1), .ref 1000, .ref 0])) (hp' := hp) zfL_683 (fun _ => rfl) (Nat.le_refl _) ?_
  refine r_scr (n := 1) zfL_684 (by decide) (by decide) ?_
  show zR _ _ _ _ _ (685, [(3, .int 0), (2, .ref 70), (1, .ref 0), (0, .ref 1000)], [.int (xs 1), .ref 0]) hp _
  refine r_call (ix := 0) (as := [.int (xs 1)]) (rest := []) (rv := some (.int v)) (hp' := hp1) zfL_685 har142 rfl rfl rfl (hk0 F) (Nat.le_of_ble_eq_true rfl) k1 m1 ?_
  show zR _ _ _ _ _ (688, [(3, .int 0), (2, .ref 70), (1, .ref 0), (0, .ref 1000)], [.int v]) hp1 _
  refine r_s (fr' := (689, [(3, .int 0), (2, .ref 70), (1, .ref 0), (0, .ref 1000)], [.ref 70, .int v])) (hp' := hp1) zfL_688 (fun _ => rfl) (Nat.le_refl _) ?_
  refine r_s (fr' := (690, [(3, .int 0), (2, .ref 70), (1, .ref 0), (0, .ref 1000)], [.ref 1000, .ref 70, .int v])) (hp' := hp1) zfL_689 (fun _ => rfl) (Nat.le_refl _) ?_
  refine r_s (fr' := (691, [(3, .int 0), (2, .ref 70), (1, .ref 0), (0, .ref 1000)], [.int 0, .ref 1000, .ref 70, .int v])) (hp' := hp1) zfL_690 (fun _ => rfl) (Nat.le_refl _) ?_
  refine r_s (fr' := (692, [(3, .int 0), (2, .ref 70), (1, .ref 0), (0, .ref 1000)], [.int 1, .int 0, .ref 1000, .ref 70, .int v])) (hp' := hp1) zfL_691 (fun _ => rfl) (Nat.le_refl _) ?_
  refine r_s (fr' := (693, [(3, .int 0), (2, .ref 70), (1, .ref 0), (0, .ref 1000)], [.int (0 + 1), .ref 1000, .ref 70, .int v])) (hp' := hp1) zfL_692 (fun _ => rfl) (Nat.le_refl _) ?_
  refine r_scr (n := 1) zfL_693 (by decide) (by decide) ?_
  show zR _ _ _ _ _ (694, [(3, .int 0), (2, .ref 70), (1, .ref 0), (0, .ref 1000)], [.int (xs 1), .ref 70, .int v]) hp1 _
  refine r_call (ix := 70) (as := [.int (xs 1)]) (rest := [.int v]) (rv := some (.int v)) (hp' := hp2) zfL_694 har257 rfl rfl rfl q1 (Nat.le_of_ble_eq_true rfl) k2 m2 ?_
  show zR _ _ _ _ _ (697, [(3, .int 0), (2, .ref 70), (1, .ref 0), (0, .ref 1000)], [.int v, .int v]) hp2 _
  refine r_ifc zfL_697 (fun _ => ?_) (fun h => absurd h (by simp [zcmp]))
  exact K
theorem zLk_18 {hp : zHp} (F : zFr0 hp) (xs : Nat → Int32) : ∃ hp2 : zHp, hp2.1 ≤ 2000 ∧ ∀ r, zR (some (6, xs)) 20 4 ret zcL (1041, [(3, .int 0), (2, .ref 70), (1, .ref 0), (0, .ref 1000)], []) hp2 r → zR (some (6, xs)) 20 4 ret zcL (702, [(3, .int 0), (2, .ref 70), (1, .ref 0), (0, .ref 1000)], []) hp r := by
  obtain ⟨v, hp1, hp2, k1, m1, q1, k2, m2, mm⟩ := zK_18 F (xs 1)
  refine ⟨hp2, mm, fun r K => ?_⟩
  refine r_s (fr' := (703, [(3, .int 0), (2, .ref 70), (1, .ref 0), (0, .ref 1000)], [.ref 0])) (hp' := hp) zfL_702 (fun _ => rfl) (Nat.le_refl _) ?_
  refine r_s (fr' := (704, [(3, .int 0), (2, .ref 70), (1, .ref 0), (0, .ref 1000)], [.ref 1000, .ref 0])) (hp' := hp) zfL_703 (fun _ => rfl) (Nat.le_refl _) ?_
  refine r_s (fr' := (705, [(3, .int 0), (2, .ref 70), (1, .ref 0), (0, .ref 1000)], [.int 0, .ref 1000, .ref 0])) (hp' := hp) zfL_704 (fun _ => rfl) (Nat.le_refl _) ?_
  refine r_s (fr' := (706, [(3, .int 0), (2, .ref 70), (1, .ref 0), (0, .ref 1000)], [.int 1, .int 0, .ref 1000, .ref 0])) (hp' := hp) zfL_705 (fun _ => rfl) (Nat.le_refl _) ?_
  refine r_s (fr' := (707, [(3, .int 0), (2, .ref 70), (1, .ref 0), (0, .ref 1000)], [.int (0 + 1), .ref 1000, .ref 0])) (hp' := hp) zfL_706 (fun _ => rfl) (Nat.le_refl _) ?_
  refine r_scr (n := 1) zfL_707 (by decide) (by decide) ?_
  show zR _ _ _ _ _ (708, [(3, .int 0), (2, .ref 70), (1, .ref 0), (0, .ref 1000)], [.int (xs 1), .ref 0]) hp _
  refine r_call (ix := 0) (as := [.int (xs 1)]) (rest := []) (rv := some (.int v)) (hp' := hp1) zfL_708 har143 rfl rfl rfl (hk0 F) (Nat.le_of_ble_eq_true rfl) k1 m1 ?_
  show zR _ _ _ _ _ (711, [(3, .int 0), (2, .ref 70), (1, .ref 0), (0, .ref 1000)], [.int v]) hp1 _
  refine r_s (fr' := (712, [(3, .int 0), (2, .ref 70), (1, .ref 0), (0, .ref 1000)], [.ref 70, .int v])) (hp' := hp1) zfL_711 (fun _ => rfl) (Nat.le_refl _) ?_
  refine r_s (fr' := (713, [(3, .int 0), (2, .ref 70), (1, .ref 0), (0, .ref 1000)], [.ref 1000, .ref 70, .int v])) (hp' := hp1) zfL_712 (fun _ => rfl) (Nat.le_refl _) ?_
  refine r_s (fr' := (714, [(3, .int 0), (2, .ref 70), (1, .ref 0), (0, .ref 1000)], [.int 0, .ref 1000, .ref 70, .int v])) (hp' := hp1) zfL_713 (fun _ => rfl) (Nat.le_refl _) ?_
  refine r_s (fr' := (715, [(3, .int 0), (2, .ref 70), (1, .ref 0), (0, .ref 1000)], [.int 1, .int 0, .ref 1000, .ref 70, .int v])) (hp' := hp1) zfL_714 (fun _ => rfl) (Nat.le_refl _) ?_
  refine r_s (fr' := (716, [(3, .int 0), (2, .ref 70), (1, .ref 0), (0, .ref 1000)], [.int (0 + 1), .ref 1000, .ref 70, .int v])) (hp' := hp1) zfL_715 (fun _ => rfl) (Nat.le_refl _) ?_
  refine r_scr (n := 1) zfL_716 (by decide) (by decide) ?_
  show zR _ _ _ _ _ (717, [(3, .int 0), (2, .ref 70), (1, .ref 0), (0, .ref 1000)], [.int (xs 1), .ref 70, .int v]) hp1 _
  refine r_call (ix := 70) (as := [.int (xs 1)]) (rest := [.int v]) (rv := some (.int v)) (hp' := hp2) zfL_717 har258 rfl rfl rfl q1 (Nat.le_of_ble_eq_true rfl) k2 m2 ?_
  show zR _ _ _ _ _ (720, [(3, .int 0), (2, .ref 70), (1, .ref 0), (0, .ref 1000)], [.int v, .int v]) hp2 _
  refine r_ifc zfL_720 (fun _ => ?_) (fun h => absurd h (by simp [zcmp]))
  exact K
theorem zLk_19 {hp : zHp} (F : zFr0 hp) (xs : Nat → Int32) : ∃ hp2 : zHp, hp2.1 ≤ 2000 ∧ ∀ r, zR (some (6, xs)) 20 4 ret zcL (1041, [(3, .int 0), (2, .ref 70), (1, .ref 0), (0, .ref 1000)], []) hp2 r → zR (some (6, xs)) 20 4 ret zcL (725, [(3, .int 0), (2, .ref 70), (1, .ref 0), (0, .ref 1000)], []) hp r := by
  obtain ⟨v, hp1, hp2, k1, m1, q1, k2, m2, mm⟩ := zK_19 F (xs 1) (xs 2)
  refine ⟨hp2, mm, fun r K => ?_⟩
  refine r_s (fr' := (726, [(3, .int 0), (2, .ref 70), (1, .ref 0), (0, .ref 1000)], [.ref 0])) (hp' := hp) zfL_725 (fun _ => rfl) (Nat.le_refl _) ?_
  refine r_s (fr' := (727, [(3, .int 0), (2, .ref 70), (1, .ref 0), (0, .ref 1000)], [.ref 1000, .ref 0])) (hp' := hp) zfL_726 (fun _ => rfl) (Nat.le_refl _) ?_
  refine r_s (fr' := (728, [(3, .int 0), (2, .ref 70), (1, .ref 0), (0, .ref 1000)], [.int 0, .ref 1000, .ref 0])) (hp' := hp) zfL_727 (fun _ => rfl) (Nat.le_refl _) ?_
  refine r_s (fr' := (729, [(3, .int 0), (2, .ref 70), (1, .ref 0), (0, .ref 1000)], [.int 1, .int 0, .ref 1000, .ref 0])) (hp' := hp) zfL_728 (fun _ => rfl) (Nat.le_refl _) ?_
  refine r_s (fr' := (730, [(3, .int 0), (2, .ref 70), (1, .ref 0), (0, .ref 1000)], [.int (0 + 1), .ref 1000, .ref 0])) (hp' := hp) zfL_729 (fun _ => rfl) (Nat.le_refl _) ?_
  refine r_scr (n := 1) zfL_730 (by decide) (by decide) ?_
  show zR _ _ _ _ _ (731, [(3, .int 0), (2, .ref 70), (1, .ref 0), (0, .ref 1000)], [.int (xs 1), .ref 0]) hp _
  refine r_s (fr' := (732, [(3, .int 0), (2, .ref 70), (1, .ref 0), (0, .ref 1000)], [.ref 1000, .int (xs 1), .ref 0])) (hp' := hp) zfL_731 (fun _ => rfl) (Nat.le_refl _) ?_
  refine r_s (fr' := (733, [(3, .int 0), (2, .ref 70), (1, .ref 0), (0, .ref 1000)], [.int 0, .ref 1000, .int (xs 1), .ref 0])) (hp' := hp) zfL_732 (fun _ => rfl) (Nat.le_refl _) ?_
  refine r_s (fr' := (734, [(3, .int 0), (2, .ref 70), (1, .ref 0), (0, .ref 1000)], [.int 2, .int 0, .ref 1000, .int (xs 1), .ref 0])) (hp' := hp) zfL_733 (fun _ => rfl) (Nat.le_refl _) ?_
  refine r_s (fr' := (735, [(3, .int 0), (2, .ref 70), (1, .ref 0), (0, .ref 1000)], [.int (0 + 2), .ref 1000, .int (xs 1), .ref 0])) (hp' := hp) zfL_734 (fun _ => rfl) (Nat.le_refl _) ?_
  refine r_scr (n := 2) zfL_735 (by decide) (by decide) ?_
  show zR _ _ _ _ _ (736, [(3, .int 0), (2, .ref 70), (1, .ref 0), (0, .ref 1000)], [.int (xs 2), .int (xs 1), .ref 0]) hp _
  refine r_call (ix := 0) (as := [.int (xs 1), .int (xs 2)]) (rest := []) (rv := some (.int v)) (hp' := hp1) zfL_736 har144 rfl rfl rfl (hk0 F) (Nat.le_of_ble_eq_true rfl) k1 m1 ?_
  show zR _ _ _ _ _ (739, [(3, .int 0), (2, .ref 70), (1, .ref 0), (0, .ref 1000)], [.int v]) hp1 _
  refine r_s (fr' := (740, [(3, .int 0), (2, .ref 70), (1, .ref 0), (0, .ref 1000)], [.ref 70, .int v])) (hp' := hp1) zfL_739 (fun _ => rfl) (Nat.le_refl _) ?_
  refine r_s (fr' := (741, [(3, .int 0), (2, .ref 70), (1, .ref 0), (0, .ref 1000)], [.ref 1000, .ref 70, .int v])) (hp' := hp1) zfL_740 (fun _ => rfl) (Nat.le_refl _) ?_
  refine r_s (fr' := (742, [(3, .int 0), (2, .ref 70), (1, .ref 0), (0, .ref 1000)], [.int 0, .ref 1000, .ref 70, .int v])) (hp' := hp1) zfL_741 (fun _ => rfl) (Nat.le_refl _) ?_
  refine r_s (fr' := (743, [(3, .int 0), (2, .ref 70), (1, .ref 0), (0, .ref 1000)], [.int 1, .int 0, .ref 1000, .ref 70, .int v])) (hp' := hp1) zfL_742 (fun _ => rfl) (Nat.le_refl _) ?_
  refine r_s (fr' := (744, [(3, .int 0), (2, .ref 70), (1, .ref 0), (0, .ref 1000)], [.int (0 + 1), .ref 1000, .ref 70, .int v])) (hp' := hp1) zfL_743 (fun _ => rfl) (Nat.le_refl _) ?_
  refine r_scr (n := 1) zfL_744 (by decide) (by decide) ?_
  show zR _ _ _ _ _ (745, [(3, .int 0), (2, .ref 70), (1, .ref 0), (0, .ref 1000)], [.int (xs 1), .ref 70, .int v]) hp1 _
  refine r_s (fr' := (746, [(3, .int 0), (2, .ref 70), (1, .ref 0), (0, .ref 1000)], [.ref 1000, .int (xs 1), .ref 70, .int v])) (hp' := hp1) zfL_745 (fun _ => rfl) (Nat.le_refl _) ?_
  refine r_s (fr' := (747, [(3, .int 0), (2, .ref 70), (1, .ref 0), (0, .ref 1000)], [.int 0, .ref 1000, .int (xs 1), .ref 70, .int v])) (hp' := hp1) zfL_746 (fun _ => rfl) (Nat.le_refl _) ?_
  refine r_s (fr' := (748, [(3, .int 0), (2, .ref 70), (1, .ref 0), (0, .ref 1000)], [.int 2, .int 0, .ref 1000, .int (xs 1), .ref 70, .int v])) (hp' := hp1) zfL_747 (fun _ => rfl) (Nat.le_refl _) ?_
  refine r_s (fr' := (749, [(3, .int 0), (2, .ref 70), (1, .ref 0), (0, .ref 1000)], [.int (0 + 2), .ref 1000, .int (xs 1), .ref 70, .int v])) (hp' := hp1) zfL_748 (fun _ => rfl) (Nat.le_refl _) ?_
  refine r_scr (n := 2) zfL_749 (by decide) (by decide) ?_
  show zR _ _ _ _ _ (750, [(3, .int 0), (2, .ref 70), (1, .ref 0), (0, .ref 1000)], [.int (xs 2), .int (xs 1), .ref 70, .int v]) hp1 _
  refine r_call (ix := 70) (as := [.int (xs 1), .int (xs 2)]) (rest := [.int v]) (rv := some (.int v)) (hp' := hp2) zfL_750 har261 rfl rfl rfl q1 (Nat.le_of_ble_eq_true rfl) k2 m2 ?_
  show zR _ _ _ _ _ (753, [(3, .int 0), (2, .ref 70), (1, .ref 0), (0, .ref 1000)], [.int v, .int v]) hp2 _
  refine r_ifc zfL_753 (fun _ => ?_) (fun h => absurd h (by simp [zcmp]))
  exact K
theorem zLk_20 {hp : zHp} (F : zFr0 hp) (xs : Nat → Int32) : ∃ hp2 : zHp, hp2.1 ≤ 2000 ∧ ∀ r, zR (some (6, xs)) 20 4 ret zcL (1041, [(3, .int 0), (2, .ref 70), (1, .ref 0), (0, .ref 1000)], []) hp2 r → zR (some (6, xs)) 20 4 ret zcL (758, [(3, .int 0), (2, .ref 70), (1, .ref 0), (0, .ref 1000)], []) hp r := by
  obtain ⟨v, hp1, hp2, k1, m1, q1, k2, m2, mm⟩ := zK_20 F (xs 1)
  refine ⟨hp2, mm, fun r K => ?_⟩
  refine r_s (fr' := (759, [(3, .int 0), (2, .ref 70), (1, .ref 0), (0, .ref 1000)], [.ref 0])) (hp' := hp) zfL_758 (fun _ => rfl) (Nat.le_refl _) ?_
  refine r_s (fr' := (760, [(3, .int 0), (2, .ref 70), (1, .ref 0), (0, .ref 1000)], [.ref 1000, .ref 0])) (hp' := hp) zfL_759 (fun _ => rfl) (Nat.le_refl _) ?_
  refine r_s (fr' := (761, [(3, .int 0), (2, .ref 70), (1, .ref 0), (0, .ref 1000)], [.int 0, .ref 1000, .ref 0])) (hp' := hp) zfL_760 (fun _ => rfl) (Nat.le_refl _) ?_
  refine r_s (fr' := (762, [(3, .int 0), (2, .ref 70), (1, .ref 0), (0, .ref 1000)], [.int 1, .int 0, .ref 1000, .ref 0])) (hp' := hp) zfL_761 (fun _ => rfl) (Nat.le_refl _) ?_
  refine r_s (fr' := (763, [(3, .int 0), (2, .ref 70), (1, .ref 0), (0, .ref 1000)], [.int (0 + 1), .ref 1000, .ref 0])) (hp' := hp) zfL_762 (fun _ => rfl) (Nat.le_refl _) ?_
  refine r_scr (n := 1) zfL_763 (by decide) (by decide) ?_
  show zR _ _ _ _ _ (764, [(3, .int 0), (2, .ref 70), (1, .ref 0), (0, .ref 1000)], [.int (xs 1), .ref 0]) hp _
  refine r_call (ix := 0) (as := [.int (xs 1)]) (rest := []) (rv := some (.int v)) (hp' := hp1) zfL_764 har145 rfl rfl rfl (hk0 F) (Nat.le_of_ble_eq_true rfl) k1 m1 ?_
  show zR _ _ _ _ _ (767, [(3, .int 0), (2, .ref 70), (1, .ref 0), (0, .ref 1000)], [.int v]) hp1 _
  refine r_s (fr' := (768, [(3, .int 0), (2, .ref 70), (1, .ref 0), (0, .ref 1000)], [.ref 70, .int v])) (hp' := hp1) zfL_767 (fun _ => rfl) (Nat.le_refl _) ?_
  refine r_s (fr' := (769, [(3, .int 0), (2, .ref 70), (1, .ref 0), (0, .ref 1000)], [.ref 1000, .ref 70, .int v])) (hp' := hp1) zfL_768 (fun _ => rfl) (Nat.le_refl _) ?_
  refine r_s (fr' := (770, [(3, .int 0), (2, .ref 70), (1, .ref 0), (0, .ref 1000)], [.int 0, .ref 1000, .ref 70, .int v])) (hp' := hp1) zfL_769 (fun _ => rfl) (Nat.le_refl _) ?_
  refine r_s (fr' := (771, [(3, .int 0), (2, .ref 70), (1, .ref 0), (0, .ref 1000)], [.int 1, .int 0, .ref 1000, .ref 70, .int v])) (hp' := hp1) zfL_770 (fun _ => rfl) (Nat.le_refl _) ?_
  refine r_s (fr' := (772, [(3, .int 0), (2, .ref 70), (1, .ref 0), (0, .ref 1000)], [.int (0 + 1), .ref 1000, .ref 70, .int v])) (hp' := hp1) zfL_771 (fun _ => rfl) (Nat.le_refl _) ?_
  refine r_scr (n := 1) zfL_772 (by decide) (by decide) ?_
  show zR _ _ _ _ _ (773, [(3, .int 0), (2, .ref 70), (1, .ref 0), (0, .ref 1000)], [.int (xs 1), .ref 70, .int v]) hp1 _
  refine r_call (ix := 70) (as := [.int (xs 1)]) (rest := [.int v]) (rv := some (.int v)) (hp' := hp2) zfL_773 har262 rfl rfl rfl q1 (Nat.le_of_ble_eq_true rfl) k2 m2 ?_
  show zR _ _ _ _ _ (776, [(3, .int 0), (2, .ref 70), (1, .ref 0), (0, .ref 1000)], [.int v, .int v]) hp2 _
  refine r_ifc zfL_776 (fun _ => ?_) (fun h => absurd h (by simp [zcmp]))
  exact K
theorem zLk_21 {hp : zHp} (F : zFr0 hp) (xs : Nat → Int32) : ∃ hp2 : zHp, hp2.1 ≤ 2000 ∧ ∀ r, zR (some (6, xs)) 20 4 ret zcL (1041, [(3, .int 0), (2, .ref 70), (1, .ref 0), (0, .ref 1000)], []) hp2 r → zR (some (6, xs)) 20 4 ret zcL (781, [(3, .int 0), (2, .ref 70), (1, .ref 0), (0, .ref 1000)], []) hp r := by
  obtain ⟨v, hp1, hp2, k1, m1, q1, k2, m2, mm⟩ := zK_21 F (xs 1)
  refine ⟨hp2, mm, fun r K => ?_⟩
  refine r_s (fr' := (782, [(3, .int 0), (2, .ref 70), (1, .ref 0), (0, .ref 1000)], [.ref 0])) (hp' := hp) zfL_781 (fun _ => rfl) (Nat.le_refl _) ?_
  refine r_s (fr' := (783, [(3, .int 0), (2, .ref 70), (1, .ref 0), (0, .ref 1000)], [.ref 1000, .ref 0])) (hp' := hp) zfL_782 (fun _ => rfl) (Nat.le_refl _) ?_
  refine r_s (fr' := (784, [(3, .int 0), (2, .ref 70), (1, .ref 0), (0, .ref 1000)], [.int 0, .ref 1000, .ref 0])) (hp' := hp) zfL_783 (fun _ => rfl) (Nat.le_refl _) ?_
  refine r_s (fr' := (785, [(3, .int 0), (2, .ref 70), (1, .ref 0), (0, .ref 1000)], [.int 1, .int 0, .ref 1000, .ref 0])) (hp' := hp) zfL_784 (fun _ => rfl) (Nat.le_refl _) ?_
  refine r_s (fr' := (786, [(3, .int 0), (2, .ref 70), (1, .ref 0), (0, .ref 1000)], [.int (0 + 1), .ref 1000, .ref 0])) (hp' := hp) zfL_785 (fun _ => rfl) (Nat.le_refl _) ?_
  refine r_scr (n := 1) zfL_786 (by decide) (by decide) ?_
  show zR _ _ _ _ _ (787, [(3, .int 0), (2, .ref 70), (1, .ref 0), (0, .ref 1000)], [.int (xs 1), .ref 0]) hp _
  refine r_call (ix := 0) (as := [.int (xs 1)]) (rest := []) (rv := some (.int v)) (hp' := hp1) zfL_787 har146 rfl rfl rfl (hk0 F) (Nat.le_of_ble_eq_true rfl) k1 m1 ?_
  show zR _ _ _ _ _ (790, [(3, .int 0), (2, .ref 70), (1, .ref 0), (0, .ref 1000)], [.int v]) hp1 _
  refine r_s (fr' := (791, [(3, .int 0), (2, .ref 70), (1, .ref 0), (0, .ref 1000)], [.ref 70, .int v])) (hp' := hp1) zfL_790 (fun _ => rfl) (Nat.le_refl _) ?_
  refine r_s (fr' := (792, [(3, .int 0), (2, .ref 70), (1, .ref 0), (0, .ref 1000)], [.ref 1000, .ref 70, .int v])) (hp' := hp1) zfL_791 (fun _ => rfl) (Nat.le_refl _) ?_
  refine r_s (fr' := (793, [(3, .int 0), (2, .ref 70), (1, .ref 0), (0, .ref 1000)], [.int 0, .ref 1000, .ref 70, .int v])) (hp' := hp1) zfL_792 (fun _ => rfl) (Nat.le_refl _) ?_
  refine r_s (fr' := (794, [(3, .int 0), (2, .ref 70), (1, .ref 0), (0, .ref 1000)], [.int 1, .int 0, .ref 1000, .ref 70, .int v])) (hp' := hp1) zfL_793 (fun _ => rfl) (Nat.le_refl _) ?_
  refine r_s (fr' := (795, [(3, .int 0), (2, .ref 70), (1, .ref 0), (0, .ref 1000)], [.int (0 + 1), .ref 1000, .ref 70, .int v])) (hp' := hp1) zfL_794 (fun _ => rfl) (Nat.le_refl _) ?_
  refine r_scr (n := 1) zfL_795 (by decide) (by decide) ?_
  show zR _ _ _ _ _ (796, [(3, .int 0), (2, .ref 70), (1, .ref 0), (0, .ref 1000)], [.int (xs 1), .ref 70, .int v]) hp1 _
  refine r_call (ix := 70) (as := [.int (xs 1)]) (rest := [.int v]) (rv := some (.int v)) (hp' := hp2) zfL_796 har264 rfl rfl rfl q1 (Nat.le_of_ble_eq_true rfl) k2 m2 ?_
  show zR _ _ _ _ _ (799, [(3, .int 0), (2, .ref 70), (1, .ref 0), (0, .ref 1000)], [.int v, .int v]) hp2 _
  refine r_ifc zfL_799 (fun _ => ?_) (fun h => absurd h (by simp [zcmp]))
  exact K
theorem zLk_22 {hp : zHp} (F : zFr0 hp) (xs : Nat → Int32) : ∃ hp2 : zHp, hp2.1 ≤ 2000 ∧ ∀ r, zR (some (6, xs)) 20 4 ret zcL (1041, [(3, .int 0), (2, .ref 70), (1, .ref 0), (0, .ref 1000)], []) hp2 r → zR (some (6, xs)) 20 4 ret zcL (804, [(3, .int 0), (2, .ref 70), (1, .ref 0), (0, .ref 1000)], []) hp r := by
  obtain ⟨v, hp1, hp2, k1, m1, q1, k2, m2, mm⟩ := zK_22 F (xs 1)
  refine ⟨hp2, mm, fun r K => ?_⟩
  refine r_s (fr' := (805, [(3, .int 0), (2, .ref 70), (1, .ref 0), (0, .ref 1000)], [.ref 0])) (hp' := hp) zfL_804 (fun _ => rfl) (Nat.le_refl _) ?_
  refine r_s (fr' := (806, [(3, .int 0), (2, .ref 70), (1, .ref 0), (0, .ref 1000)], [.ref 1000, .ref 0])) (hp' := hp) zfL_805 (fun _ => rfl) (Nat.le_refl _) ?_
  refine r_s (fr' := (807, [(3, .int 0), (2, .ref 70), (1, .ref 0), (0, .ref 1000)], [.int 0, .ref 1000, .ref 0])) (hp' := hp) zfL_806 (fun _ => rfl) (Nat.le_refl _) ?_
  refine r_s (fr' := (808, [(3, .int 0), (2, .ref 70), (1, .ref 0), (0, .ref 1000)], [.int 1, .int 0, .ref 1000, .ref 0])) (hp' := hp) zfL_807 (fun _ => rfl) (Nat.le_refl _) ?_
  refine r_s (fr' := (809, [(3, .int 0), (2, .ref 70), (1, .ref 0), (0, .ref 1000)], [.int (0 + 1), .ref 1000, .ref 0])) (hp' := hp) zfL_808 (fun _ => rfl) (Nat.le_refl _) ?_
  refine r_scr (n := 1) zfL_809 (by decide) (by decide) ?_
  show zR _ _ _ _ _ (810, [(3, .int 0), (2, .ref 70), (1, .ref 0), (0, .ref 1000)], [.int (xs 1), .ref 0]) hp _
  refine r_call (ix := 0) (as := [.int (xs 1)]) (rest := []) (rv := some (.int v)) (hp' := hp1) zfL_810 har147 rfl rfl rfl (hk0 F) (Nat.le_of_ble_eq_true rfl) k1 m1 ?_
  show zR _ _ _ _ _ (813, [(3, .int 0), (2, .ref 70), (1, .ref 0), (0, .ref 1000)], [.int v]) hp1 _
  refine r_s (fr' := (814, [(3, .int 0), (2, .ref 70), (1, .ref 0), (0, .ref 1000)], [.ref 70, .int v])) (hp' := hp1) zfL_813 (fun _ => rfl) (Nat.le_refl _) ?_
  refine r_s (fr' := (815, [(3, .int 0), (2, .ref 70), (1, .ref 0), (0, .ref 1000)], [.ref 1000, .ref 70, .int v])) (hp' := hp1) zfL_814 (fun _ => rfl) (Nat.le_refl _) ?_
  refine r_s (fr' := (816, [(3, .int 0), (2, .ref 70), (1, .ref 0), (0, .ref 1000)], [.int 0, .ref 1000, .ref 70, .int v])) (hp' := hp1) zfL_815 (fun _ => rfl) (Nat.le_refl _) ?_
  refine r_s (fr' := (817, [(3, .int 0), (2, .ref 70), (1, .ref 0), (0, .ref 1000)], [.int 1, .int 0, .ref 1000, .ref 70, .int v])) (hp' := hp1) zfL_816 (fun _ => rfl) (Nat.le_refl _) ?_
  refine r_s (fr' := (818, [(3, .int 0), (2, .ref 70), (1, .ref 0), (0, .ref 1000)], [.int (0 + 1), .ref 1000, .ref 70, .int v])) (hp' := hp1) zfL_817 (fun _ => rfl) (Nat.le_refl _) ?_
  refine r_scr (n := 1) zfL_818 (by decide) (by decide) ?_
  show zR _ _ _ _ _ (819, [(3, .int 0), (2, .ref 70), (1, .ref 0), (0, .ref 1000)], [.int (xs 1), .ref 70, .int v]) hp1 _
  refine r_call (ix := 70) (as := [.int (xs 1)]) (rest := [.int v]) (rv := some (.int v)) (hp' := hp2) zfL_819 har265 rfl rfl rfl q1 (Nat.le_of_ble_eq_true rfl) k2 m2 ?_
  show zR _ _ _ _ _ (822, [(3, .int 0), (2, .ref 70), (1, .ref 0), (0, .ref 1000)], [.int v, .int v]) hp2 _
  refine r_ifc zfL_822 (fun _ => ?_) (fun h => absurd h (by simp [zcmp]))
  exact K
theorem zLk_23 {hp : zHp} (F : zFr0 hp) (xs : Nat → Int32) : ∃ hp2 : zHp, hp2.1 ≤ 2000 ∧ ∀ r, zR (some (6, xs)) 20 4 ret zcL (1041, [(3, .int 0), (2, .ref 70), (1, .ref 0), (0, .ref 1000)], []) hp2 r → zR (some (6, xs)) 20 4 ret zcL (827, [(3, .int 0), (2, .ref 70), (1, .ref 0), (0, .ref 1000)], []) hp r := by
  obtain ⟨v, hp1, hp2, k1, m1, q1, k2, m2, mm⟩ := zK_23 F (xs 1) (xs 2)
  refine ⟨hp2, mm, fun r K => ?_⟩
  refine r_s (fr' := (828, [(3, .int 0), (2, .ref 70), (1, .ref 0), (0, .ref 1000)], [.ref 0])) (hp' := hp) zfL_827 (fun _ => rfl) (Nat.le_refl _) ?_
  refine r_s (fr' := (829, [(3, .int 0), (2, .ref 70), (1, .ref 0), (0, .ref 1000)], [.ref 1000, .ref 0])) (hp' := hp) zfL_828 (fun _ => rfl) (Nat.le_refl _) ?_
  refine r_s (fr' := (830, [(3, .int 0), (2, .ref 70), (1, .ref 0), (0, .ref 1000)], [.int 0, .ref 1000, .ref 0])) (hp' := hp) zfL_829 (fun _ => rfl) (Nat.le_refl _) ?_
  refine r_s (fr' := (831, [(3, .int 0), (2, .ref 70), (1, .ref 0), (0, .ref 1000)], [.int 1, .int 0, .ref 1000, .ref 0])) (hp' := hp) zfL_830 (fun _ => rfl) (Nat.le_refl _) ?_
  refine r_s (fr' := (832, [(3, .int 0), (2, .ref 70), (1, .ref 0), (0, .ref 1000)], [.int (0 + 1), .ref 1000, .ref 0])) (hp' := hp) zfL_831 (fun _ => rfl) (Nat.le_refl _) ?_
  refine r_scr (n := 1) zfL_832 (by decide) (by decide) ?_
  show zR _ _ _ _ _ (833, [(3, .int 0), (2, .ref 70), (1, .ref 0), (0, .ref 1000)], [.int (xs 1), .ref 0]) hp _
  refine r_s (fr' := (834, [(3, .int 0), (2, .ref 70), (1, .ref 0), (0, .ref 1000)], [.ref 1000, .int (xs 1), .ref 0])) (hp' := hp) zfL_833 (fun _ => rfl) (Nat.le_refl _) ?_
  refine r_s (fr' := (835, [(3, .int 0), (2, .ref 70), (1, .ref 0), (0, .ref 1000)], [.int 0, .ref 1000, .int (xs 1), .ref 0])) (hp' := hp) zfL_834 (fun _ => rfl) (Nat.le_refl _) ?_
  refine r_s (fr' := (836, [(3, .int 0), (2, .ref 70), (1, .ref 0), (0, .ref 1000)], [.int 2, .int 0, .ref 1000, .int (xs 1), .ref 0])) (hp' := hp) zfL_835 (fun _ => rfl) (Nat.le_refl _) ?_
  refine r_s (fr' := (837, [(3, .int 0), (2, .ref 70), (1, .ref 0), (0, .ref 1000)], [.int (0 + 2), .ref 1000, .int (xs 1), .ref 0])) (hp' := hp) zfL_836 (fun _ => rfl) (Nat.le_refl _) ?_
  refine r_scr (n := 2) zfL_837 (by decide) (by decide) ?_
  show zR _ _ _ _ _ (838, [(3, .int 0), (2, .ref 70), (1, .ref 0), (0, .ref 1000)], [.int (xs 2), .int (xs 1), .ref 0]) hp _
  refine r_call (ix := 0) (as := [.int (xs 1), .int (xs 2)]) (rest := []) (rv := some (.int v)) (hp' := hp1) zfL_838 har148 rfl rfl rfl (hk0 F) (Nat.le_of_ble_eq_true rfl) k1 m1 ?_
  show zR _ _ _ _ _ (841, [(3, .int 0), (2, .ref 70), (1, .ref 0), (0, .ref 1000)], [.int v]) hp1 _
  refine r_s (fr' := (842, [(3, .int 0), (2, .ref 70), (1, .ref 0), (0, .ref 1000)], [.ref 70, .int v])) (hp' := hp1) zfL_841 (fun _ => rfl) (Nat.le_refl _) ?_
  refine r_s (fr' := (843, [(3, .int 0), (2, .ref 70), (1, .ref 0), (0, .ref 1000)], [.ref 1000, .ref 70, .int v])) (hp' := hp1) zfL_842 (fun _ => rfl) (Nat.le_refl _) ?_
  refine r_s (fr' := (844, [(3, .int 0), (2, .ref 70), (1, .ref 0), (0, .ref 1000)], [.int 0, .ref 1000, .ref 70, .int v])) (hp' := hp1) zfL_843 (fun _ => rfl) (Nat.le_refl _) ?_
  refine r_s (fr' := (845, [(3, .int 0), (2, .ref 70), (1, .ref 0), (0, .ref 1000)], [.int 1, .int 0, .ref 1000, .ref 70, .int v])) (hp' := hp1) zfL_844 (fun _ => rfl) (Nat.le_refl _) ?_
  refine r_s (fr' := (846, [(3, .int 0), (2, .ref 70), (1, .ref 0), (0, .ref 1000)], [.int (0 + 1), .ref 1000, .ref 70, .int v])) (hp' := hp1) zfL_845 (fun _ => rfl) (Nat.le_refl _) ?_
  refine r_scr (n := 1) zfL_846 (by decide) (by decide) ?_
  show zR _ _ _ _ _ (847, [(3, .int 0), (2, .ref 70), (1, .ref 0), (0, .ref 1000)], [.int (xs 1), .ref 70, .int v]) hp1 _
  refine r_s (fr' := (848, [(3, .int 0), (2, .ref 70), (1, .ref 0), (0, .ref 1000)], [.ref 1000, .int (xs 1), .ref 70, .int v])) (hp' := hp1) zfL_847 (fun _ => rfl) (Nat.le_refl _) ?_
  refine r_s (fr' := (849, [(3, .int 0), (2, .ref 70), (1, .ref 0), (0, .ref 1000)], [.int 0, .ref 1000, .int (xs 1), .ref 70, .int v])) (hp' := hp1) zfL_848 (fun _ => rfl) (Nat.le_refl _) ?_
  refine r_s (fr' := (850, [(3, .int 0), (2, .ref 70), (1, .ref 0), (0, .ref 1000)], [.int 2, .int 0, .ref 1000, .int (xs 1), .ref 70, .int v])) (hp' := hp1) zfL_849 (fun _ => rfl) (Nat.le_refl _) ?_
  refine r_s (fr' := (851, [(3, .int 0), (2, .ref 70), (1, .ref 0), (0, .ref 1000)], [.int (0 + 2), .ref 1000, .int (xs 1), .ref 70, .int v])) (hp' := hp1) zfL_850 (fun _ => rfl) (Nat.le_refl _) ?_
  refine r_scr (n := 2) zfL_851 (by decide) (by decide) ?_
  show zR _ _ _ _ _ (852, [(3, .int 0), (2, .ref 70), (1, .ref 0), (0, .ref 1000)], [.int (xs 2), .int (xs 1), .ref 70, .int v]) hp1 _
  refine r_call (ix := 70) (as := [.int (xs 1), .int (xs 2)]) (rest := [.int v]) (rv := some (.int v)) (hp' := hp2) zfL_852 har267 rfl rfl rfl q1 (Nat.le_of_ble_eq_true rfl) k2 m2 ?_
  show zR _ _ _ _ _ (855, [(3, .int 0), (2, .ref 70), (1, .ref 0), (0, .ref 1000)], [.int v, .int v]) hp2 _
  refine r_ifc zfL_855 (fun _ => ?_) (fun h => absurd h (by simp [zcmp]))
  exact K
theorem zLk_24 {hp : zHp} (F : zFr0 hp) (xs : Nat → Int32) : ∃ hp2 : zHp, hp2.1 ≤ 2000 ∧ ∀ r, zR (some (6, xs)) 20 4 ret zcL (1041, [(3, .int 0), (2, .ref 70), (1, .ref 0), (0, .ref 1000)], []) hp2 r → zR (some (6, xs)) 20 4 ret zcL (860, [(3, .int 0), (2, .ref 70), (1, .ref 0), (0, .ref 1000)], []) hp r := by
  obtain ⟨v, hp1, hp2, k1, m1, q1, k2, m2, mm⟩ := zK_24 F (xs 1)
  refine ⟨hp2, mm, fun r K => ?_⟩
  refine r_s (fr' := (861, [(3, .int 0), (2, .ref 70), (1, .ref 0), (0, .ref 1000)], [.ref 0])) (hp' := hp) zfL_860 (fun _ => rfl) (Nat.le_refl _) ?_
  refine r_s (fr' := (862, [(3, .int 0), (2, .ref 70), (1, .ref 0), (0, .ref 1000)], [.ref 1000, .ref 0])) (hp' := hp) zfL_861 (fun _ => rfl) (Nat.le_refl _) ?_
  refine r_s (fr' := (863, [(3, .int 0), (2, .ref 70), (1, .ref 0), (0, .ref 1000)], [.int 0, .ref 1000, .ref 0])) (hp' := hp) zfL_862 (fun _ => rfl) (Nat.le_refl _) ?_
  refine r_s (fr' := (864, [(3, .int 0), (2, .ref 70), (1, .ref 0), (0, .ref 1000)], [.int 1, .int 0, .ref 1000, .ref 0])) (hp' := hp) zfL_863 (fun _ => rfl) (Nat.le_refl _) ?_
  refine r_s (fr' := (865, [(3, .int 0), (2, .ref 70), (1, .ref 0), (0, .ref 1000)], [.int (0 + 1), .ref 1000, .ref 0])) (hp' := hp) zfL_864 (fun _ => rfl) (Nat.le_refl _) ?_
  refine r_scr (n := 1) zfL_865 (by decide) (by decide) ?_
  show zR _ _ _ _ _ (866, [(3, .int 0), (2, .ref 70), (1, .ref 0), (0, .ref 1000)], [.int (xs 1), .ref 0]) hp _
  refine r_call (ix := 0) (as := [.int (xs 1)]) (rest := []) (rv := some (.int v)) (hp' := hp1) zfL_866 har149 rfl rfl rfl (hk0 F) (Nat.le_of_ble_eq_true rfl) k1 m1 ?_
  show zR _ _ _ _ _ (869, [(3, .int 0), (2, .ref 70), (1, .ref 0), (0, .ref 1000)], [.int v]) hp1 _
  refine r_s (fr' := (870, [(3, .int 0), (2, .ref 70), (1, .ref 0), (0, .ref 1000)], [.ref 70, .int v])) (hp' := hp1) zfL_869 (fun _ => rfl) (Nat.le_refl _) ?_
  refine r_s (fr' := (871, [(3, .int 0), (2, .ref 70), (1, .ref 0), (0, .ref 1000)], [.ref 1000, .ref 70, .int v])) (hp' := hp1) zfL_870 (fun _ => rfl) (Nat.le_refl _) ?_
  refine r_s (fr' := (872, [(3, .int 0), (2, .ref 70), (1, .ref 0), (0, .ref 1000)], [.int 0, .ref 1000, .ref 70, .int v])) (hp' := hp1) zfL_871 (fun _ => rfl) (Nat.le_refl _) ?_
  refine r_s (fr' := (873, [(3, .int 0), (2, .ref 70), (1, .ref 0), (0, .ref 1000)], [.int 1, .int 0, .ref 1000, .ref 70, .int v])) (hp' := hp1) zfL_872 (fun _ => rfl) (Nat.le_refl _) ?_
  refine r_s (fr' := (874, [(3, .int 0), (2, .ref 70), (1, .ref 0), (0, .ref 1000)], [.int (0 + 1), .ref 1000, .ref 70, .int v])) (hp' := hp1) zfL_873 (fun _ => rfl) (Nat.le_refl _) ?_
  refine r_scr (n := 1) zfL_874 (by decide) (by decide) ?_
  show zR _ _ _ _ _ (875, [(3, .int 0), (2, .ref 70), (1, .ref 0), (0, .ref 1000)], [.int (xs 1), .ref 70, .int v]) hp1 _
  refine r_call (ix := 70) (as := [.int (xs 1)]) (rest := [.int v]) (rv := some (.int v)) (hp' := hp2) zfL_875 har269 rfl rfl rfl q1 (Nat.le_of_ble_eq_true rfl) k2 m2 ?_
  show zR _ _ _ _ _ (878, [(3, .int 0), (2, .ref 70), (1, .ref 0), (0, .ref 1000)], [.int v, .int v]) hp2 _
  refine r_ifc zfL_878 (fun _ => ?_) (fun h => absurd h (by simp [zcmp]))
  exact K
theorem zLk_25 {hp : zHp} (F : zFr0 hp) (xs : Nat → Int32) : ∃ hp2 : zHp, hp2.1 ≤ 2000 ∧ ∀ r, zR (some (6, xs)) 20 4 ret zcL (1041, [(3, .int 0), (2, .ref 70), (1, .ref 0), (0, .ref 1000)], []) hp2 r → zR (some (6, xs)) 20 4 ret zcL (883, [(3, .int 0), (2, .ref 70), (1, .ref 0), (0, .ref 1000)], []) hp r := by
  obtain ⟨v, hp1, hp2, k1, m1, q1, k2, m2, mm⟩ := zK_25 F (xs 1)
  refine ⟨hp2, mm, fun r K => ?_⟩
  refine r_s (fr' := (884, [(3, .int 0), (2, .ref 70), (1, .ref 0), (0, .ref 1000)], [.ref 0])) (hp' := hp) zfL_883 (fun _ => rfl) (Nat.le_refl _) ?_
  refine r_s (fr' := (885, [(3, .int 0), (2, .ref 70), (1, .ref 0), (0, .ref 1000)], [.ref 1000, .ref 0])) (hp' := hp) zfL_884 (fun _ => rfl) (Nat.le_refl _) ?_
  refine r_s (fr' := (886, [(3, .int 0), (2, .ref 70), (1, .ref 0), (0, .ref 1000)], [.int 0, .ref 1000, .ref 0])) (hp' := hp) zfL_885 (fun _ => rfl) (Nat.le_refl _) ?_
  refine r_s (fr' := (887, [(3, .int 0), (2, .ref 70), (1, .ref 0), (0, .ref 1000)], [.int 1, .int 0, .ref 1000, .ref 0])) (hp' := hp) zfL_886 (fun _ => rfl) (Nat.le_refl _) ?_
  refine r_s (fr' := (888, [(3, .int 0), (2, .ref 70), (1, .ref 0), (0, .ref 1000)], [.int (0 + 1), .ref 1000, .ref 0])) (hp' := hp) zfL_887 (fun _ => rfl) (Nat.le_refl _) ?_
  refine r_scr (n := 1) zfL_888 (by decide) (by decide) ?_
  show zR _ _ _ _ _ (889, [(3, .int 0), (2, .ref 70), (1, .ref 0), (0, .ref 1000)], [.int (xs 1), .ref 0]) hp _
  refine r_call (ix := 0) (as := [.int (xs 1)]) (rest := []) (rv := some (.int v)) (hp' := hp1) zfL_889 har150 rfl rfl rfl (hk0 F) (Nat.le_of_ble_eq_true rfl) k1 m1 ?_
  show zR _ _ _ _ _ (892, [(3, .int 0), (2, .ref 70), (1, .ref 0), (0, .ref 1000)], [.int v]) hp1 _
  refine r_s (fr' := (893, [(3, .int 0), (2, .ref 70), (1, .ref 0), (0, .ref 1000)], [.ref 70, .int v])) (hp' := hp1) zfL_892 (fun _ => rfl) (Nat.le_refl _) ?_
  refine r_s (fr' := (894, [(3, .int 0), (2, .ref 70), (1, .ref 0), (0, .ref 1000)], [.ref 1000, .ref 70, .int v])) (hp' := hp1) zfL_893 (fun _ => rfl) (Nat.le_refl _) ?_
  refine r_s (fr' := (895, [(3, .int 0), (2, .ref 70), (1, .ref 0), (0, .ref 1000)], [.int 0, .ref 1000, .ref 70, .int v])) (hp' := hp1) zfL_894 (fun _ => rfl) (Nat.le_refl _) ?_
  refine r_s (fr' := (896, [(3, .int 0), (2, .ref 70), (1, .ref 0), (0, .ref 1000)], [.int 1, .int 0, .ref 1000, .ref 70, .int v])) (hp' := hp1) zfL_895 (fun _ => rfl) (Nat.le_refl _) ?_
  refine r_s (fr' := (897, [(3, .int 0), (2, .ref 70), (1, .ref 0), (0, .ref 1000)], [.int (0 + 1), .ref 1000, .ref 70, .int v])) (hp' := hp1) zfL_896 (fun _ => rfl) (Nat.le_refl _) ?_
  refine r_scr (n := 1) zfL_897 (by decide) (by decide) ?_
  show zR _ _ _ _ _ (898, [(3, .int 0), (2, .ref 70), (1, .ref 0), (0, .ref 1000)], [.int (xs 1), .ref 70, .int v]) hp1 _
  refine r_call (ix := 70) (as := [.int (xs 1)]) (rest := [.int v]) (rv := some (.int v)) (hp' := hp2) zfL_898 har272 rfl rfl rfl q1 (Nat.le_of_ble_eq_true rfl) k2 m2 ?_
  show zR _ _ _ _ _ (901, [(3, .int 0), (2, .ref 70), (1, .ref 0), (0, .ref 1000)], [.int v, .int v]) hp2 _
  refine r_ifc zfL_901 (fun _ => ?_) (fun h => absurd h (by simp [zcmp]))
  exact K
theorem zLk_26 {hp : zHp} (F : zFr0 hp) (xs : Nat → Int32) : ∃ hp2 : zHp, hp2.1 ≤ 2000 ∧ ∀ r, zR (some (6, xs)) 20 4 ret zcL (1041, [(3, .int 0), (2, .ref 70), (1, .ref 0), (0, .ref 1000)], []) hp2 r → zR (some (6, xs)) 20 4 ret zcL (906, [(3, .int 0), (2, .ref 70), (1, .ref 0), (0, .ref 1000)], []) hp r := by
  obtain ⟨v, hp1, hp2, k1, m1, q1, k2, m2, mm⟩ := zK_26 F (xs 1)
  refine ⟨hp2, mm, fun r K => ?_⟩
  refine r_s (fr' := (907, [(3, .int 0), (2, .ref 70), (1, .ref 0), (0, .ref 1000)], [.ref 0])) (hp' := hp) zfL_906 (fun _ => rfl) (Nat.le_refl _) ?_
  refine r_s (fr' := (908, [(3, .int 0), (2, .ref 70), (1, .ref 0), (0, .ref 1000)], [.ref 1000, .ref 0])) (hp' := hp) zfL_907 (fun _ => rfl) (Nat.le_refl _) ?_
  refine r_s (fr' := (909, [(3, .int 0), (2, .ref 70), (1, .ref 0), (0, .ref 1000)], [.int 0, .ref 1000, .ref 0])) (hp' := hp) zfL_908 (fun _ => rfl) (Nat.le_refl _) ?_
  refine r_s (fr' := (910, [(3, .int 0), (2, .ref 70), (1, .ref 0), (0, .ref 1000)], [.int 1, .int 0, .ref 1000, .ref 0])) (hp' := hp) zfL_909 (fun _ => rfl) (Nat.le_refl _) ?_
  refine r_s (fr' := (911, [(3, .int 0), (2, .ref 70), (1, .ref 0), (0, .ref 1000)], [.int (0 + 1), .ref 1000, .ref 0])) (hp' := hp) zfL_910 (fun _ => rfl) (Nat.le_refl _) ?_
  refine r_scr (n := 1) zfL_911 (by decide) (by decide) ?_
  show zR _ _ _ _ _ (912, [(3, .int 0), (2, .ref 70), (1, .ref 0), (0, .ref 1000)], [.int (xs 1), .ref 0]) hp _
  refine r_call (ix := 0) (as := [.int (xs 1)]) (rest := []) (rv := some (.int v)) (hp' := hp1) zfL_912 har152 rfl rfl rfl (hk0 F) (Nat.le_of_ble_eq_true rfl) k1 m1 ?_
  show zR _ _ _ _ _ (915, [(3, .int 0), (2, .ref 70), (1, .ref 0), (0, .ref 1000)], [.int v]) hp1 _
  refine r_s (fr' := (916, [(3, .int 0), (2, .ref 70), (1, .ref 0), (0, .ref 1000)], [.ref 70, .int v])) (hp' := hp1) zfL_915 (fun _ => rfl) (Nat.le_refl _) ?_
  refine r_s (fr' := (917, [(3, .int 0), (2, .ref 70), (1, .ref 0), (0, .ref 1000)], [.ref 1000, .ref 70, .int v])) (hp' := hp1) zfL_916 (fun _ => rfl) (Nat.le_refl _) ?_
  refine r_s (fr' := (918, [(3, .int 0), (2, .ref 70), (1, .ref 0), (0, .ref 1000)], [.int 0, .ref 1000, .ref 70, .int v])) (hp' := hp1) zfL_917 (fun _ => rfl) (Nat.le_refl _) ?_
  refine r_s (fr' := (919, [(3, .int 0), (2, .ref 70), (1, .ref 0), (0, .ref 1000)], [.int 1, .int 0, .ref 1000, .ref 70, .int v])) (hp' := hp1) zfL_918 (fun _ => rfl) (Nat.le_refl _) ?_
  refine r_s (fr' := (920, [(3, .int 0), (2, .ref 70), (1, .ref 0), (0, .ref 1000)], [.int (0 + 1), .ref 1000, .ref 70, .int v])) (hp' := hp1) zfL_919 (fun _ => rfl) (Nat.le_refl _) ?_
  refine r_scr (n := 1) zfL_920 (by decide) (by decide) ?_
  show zR _ _ _ _ _ (921, [(3, .int 0), (2, .ref 70), (1, .ref 0), (0, .ref 1000)], [.int (xs 1), .ref 70, .int v]) hp1 _
  refine r_call (ix := 70) (as := [.int (xs 1)]) (rest := [.int v]) (rv := some (.int v)) (hp' := hp2) zfL_921 har273 rfl rfl rfl q1 (Nat.le_of_ble_eq_true rfl) k2 m2 ?_
  show zR _ _ _ _ _ (924, [(3, .int 0), (2, .ref 70), (1, .ref 0), (0, .ref 1000)], [.int v, .int v]) hp2 _
  refine r_ifc zfL_924 (fun _ => ?_) (fun h => absurd h (by simp [zcmp]))
  exact K
theorem zLk_27 {hp : zHp} (F : zFr0 hp) (xs : Nat → Int32) : ∃ hp2 : zHp, hp2.1 ≤ 2000 ∧ ∀ r, zR (some (6, xs)) 20 4 ret zcL (1041, [(3, .int 0), (2, .ref 70), (1, .ref 0), (0, .ref 1000)], []) hp2 r → zR (some (6, xs)) 20 4 ret zcL (929, [(3, .int 0), (2, .ref 70), (1, .ref 0), (0, .ref 1000)], []) hp r := by
  obtain ⟨v, hp1, hp2, k1, m1, q1, k2, m2, mm⟩ := zK_27 F (xs 1) (xs 2) (xs 3)
  refine ⟨hp2, mm, fun r K => ?_⟩
  refine r_s (fr' := (930, [(3, .int 0), (2, .ref 70), (1, .ref 0), (0, .ref 1000)], [.ref 0])) (hp' := hp) zfL_929 (fun _ => rfl) (Nat.le_refl _) ?_
  refine r_s (fr' := (931, [(3, .int 0), (2, .ref 70), (1, .ref 0), (0, .ref 1000)], [.ref 1000, .ref 0])) (hp' := hp) zfL_930 (fun _ => rfl) (Nat.le_refl _) ?_
  refine r_s (fr' := (932, [(3, .int 0), (2, .ref 70), (1, .ref 0), (0, .ref 1000)], [.int 0, .ref 1000, .ref 0])) (hp' := hp) zfL_931 (fun _ => rfl) (Nat.le_refl _) ?_
  refine r_s (fr' := (933, [(3, .int 0), (2, .ref 70), (1, .ref 0), (0, .ref 1000)], [.int 1, .int 0, .ref 1000, .ref 0])) (hp' := hp) zfL_932 (fun _ => rfl) (Nat.le_refl _) ?_
  refine r_s (fr' := (934, [(3, .int 0), (2, .ref 70), (1, .ref 0), (0, .ref 1000)], [.int (0 + 1), .ref 1000, .ref 0])) (hp' := hp) zfL_933 (fun _ => rfl) (Nat.le_refl _) ?_
  refine r_scr (n := 1) zfL_934 (by decide) (by decide) ?_
  show zR _ _ _ _ _ (935, [(3, .int 0), (2, .ref 70), (1, .ref 0), (0, .ref 1000)], [.int (xs 1), .ref 0]) hp _
  refine r_s (fr' := (936, [(3, .int 0), (2, .ref 70), (1, .ref 0), (0, .ref 1000)], [.ref 1000, .int (xs 1), .ref 0])) (hp' := hp) zfL_935 (fun _ => rfl) (Nat.le_refl _) ?_
  refine r_s (fr' := (937, [(3, .int 0), (2, .ref 70), (1, .ref 0), (0, .ref 1000)], [.int 0, .ref 1000, .int (xs 1), .ref 0])) (hp' := hp) zfL_936 (fun _ => rfl) (Nat.le_refl _) ?_
  refine r_s (fr' := (938, [(3, .int 0), (2, .ref 70), (1, .ref 0), (0, .ref 1000)], [.int 2, .int 0, .ref 1000, .int (xs 1), .ref 0])) (hp' := hp) zfL_937 (fun _ => rfl) (Nat.le_refl _) ?_
  refine r_s (fr' := (939, [(3, .int 0), (2, .ref 70), (1, .ref 0), (0, .ref 1000)], [.int (0 + 2), .ref 1000, .int (xs 1), .ref 0])) (hp' := hp) zfL_938 (fun _ => rfl) (Nat.le_refl _) ?_
  refine r_scr (n := 2) zfL_939 (by decide) (by decide) ?_
  show zR _ _ _ _ _ (940, [(3, .int 0), (2, .ref 70), (1, .ref 0), (0, .ref 1000)], [.int (xs 2), .int (xs 1), .ref 0]) hp _
  refine r_s (fr' := (941, [(3, .int 0), (2, .ref 70), (1, .ref 0), (0, .ref 1000)], [.ref 1000, .int (xs 2), .int (xs 1), .ref 0])) (hp' := hp) zfL_940 (fun _ => rfl) (Nat.le_refl _) ?_
  refine r_s (fr' := (942, [(3, .int 0), (2, .ref 70), (1, .ref 0), (0, .ref 1000)], [.int 0, .ref 1000, .int (xs 2), .int (xs 1), .ref 0])) (hp' := hp) zfL_941 (fun _ => rfl) (Nat.le_refl _) ?_
  refine r_s (fr' := (943, [(3, .int 0), (2, .ref 70), (1, .ref 0), (0, .ref 1000)], [.int 3, .int 0, .ref 1000, .int (xs 2), .int (xs 1), .ref 0])) (hp' := hp) zfL_942 (fun _ => rfl) (Nat.le_refl _) ?_
  refine r_s (fr' := (944, [(3, .int 0), (2, .ref 70), (1, .ref 0), (0, .ref 1000)], [.int (0 + 3), .ref 1000, .int (xs 2), .int (xs 1), .ref 0])) (hp' := hp) zfL_943 (fun _ => rfl) (Nat.le_refl _) ?_
  refine r_scr (n := 3) zfL_944 (by decide) (by decide) ?_
  show zR _ _ _ _ _ (945, [(3, .int 0), (2, .ref 70), (1, .ref 0), (0, .ref 1000)], [.int (xs 3), .int (xs 2), .int (xs 1), .ref 0]) hp _
  refine r_call (ix := 0) (as := [.int (xs 1), .int (xs 2), .int (xs 3)]) (rest := []) (rv := some (.int v)) (hp' := hp1) zfL_945 har153 rfl rfl rfl (hk0 F) (Nat.le_of_ble_eq_true rfl) k1 m1 ?_
  show zR _ _ _ _ _ (948, [(3, .int 0), (2, .ref 70), (1, .ref 0), (0, .ref 1000)], [.int v]) hp1 _
  refine r_s (fr' := (949, [(3, .int 0), (2, .ref 70), (1, .ref 0), (0, .ref 1000)], [.ref 70, .int v])) (hp' := hp1) zfL_948 (fun _ => rfl) (Nat.le_refl _) ?_
  refine r_s (fr' := (950, [(3, .int 0), (2, .ref 70), (1, .ref 0), (0, .ref 1000)], [.ref 1000, .ref 70, .int v])) (hp' := hp1) zfL_949 (fun _ => rfl) (Nat.le_refl _) ?_
  refine r_s (fr' := (951, [(3, .int 0), (2, .ref 70), (1, .ref 0), (0, .ref 1000)], [.int 0, .ref 1000, .ref 70, .int v])) (hp' := hp1) zfL_950 (fun _ => rfl) (Nat.le_refl _) ?_
  refine r_s (fr' := (952, [(3, .int 0), (2, .ref 70), (1, .ref 0), (0, .ref 1000)], [.int 1, .int 0, .ref 1000, .ref 70, .int v])) (hp' := hp1) zfL_951 (fun _ => rfl) (Nat.le_refl _) ?_
  refine r_s (fr' := (953, [(3, .int 0), (2, .ref 70), (1, .ref 0), (0, .ref 1000)], [.int (0 + 1), .ref 1000, .ref 70, .int v])) (hp' := hp1) zfL_952 (fun _ => rfl) (Nat.le_refl _) ?_
  refine r_scr (n := 1) zfL_953 (by decide) (by decide) ?_
  show zR _ _ _ _ _ (954, [(3, .int 0), (2, .ref 70), (1, .ref 0), (0, .ref 1000)], [.int (xs 1), .ref 70, .int v]) hp1 _
  refine r_s (fr' := (955, [(3, .int 0), (2, .ref 70), (1, .ref 0), (0, .ref 1000)], [.ref 1000, .int (xs 1), .ref 70, .int v])) (hp' := hp1) zfL_954 (fun _ => rfl) (Nat.le_refl _) ?_
  refine r_s (fr' := (956, [(3, .int 0), (2, .ref 70), (1, .ref 0), (0, .ref 1000)], [.int 0, .ref 1000, .int (xs 1), .ref 70, .int v])) (hp' := hp1) zfL_955 (fun _ => rfl) (Nat.le_refl _) ?_
  refine r_s (fr' := (957, [(3, .int 0), (2, .ref 70), (1, .ref 0), (0, .ref 1000)], [.int 2, .int 0, .ref 1000, .int (xs 1), .ref 70, .int v])) (hp' := hp1) zfL_956 (fun _ => rfl) (Nat.le_refl _) ?_
  refine r_s (fr' := (958, [(3, .int 0), (2, .ref 70), (1, .ref 0), (0, .ref 1000)], [.int (0 + 2), .ref 1000, .int (xs 1), .ref 70, .int v])) (hp' := hp1) zfL_957 (fun _ => rfl) (Nat.le_refl _) ?_
  refine r_scr (n := 2) zfL_958 (by decide) (by decide) ?_
  show zR _ _ _ _ _ (959, [(3, .int 0), (2, .ref 70), (1, .ref 0), (0, .ref 1000)], [.int (xs 2), .int (xs 1), .ref 70, .int v]) hp1 _
  refine r_s (fr' := (960, [(3, .int 0), (2, .ref 70), (1, .ref 0), (0, .ref 1000)], [.ref 1000, .int (xs 2), .int (xs 1), .ref 70, .int v])) (hp' := hp1) zfL_959 (fun _ => rfl) (Nat.le_refl _) ?_
  refine r_s (fr' := (961, [(3, .int 0), (2, .ref 70), (1, .ref 0), (0, .ref 1000)], [.int 0, .ref 1000, .int (xs 2), .int (xs 1), .ref 70, .int v])) (hp' := hp1) zfL_960 (fun _ => rfl) (Nat.le_refl _) ?_
  refine r_s (fr' := (962, [(3, .int 0), (2, .ref 70), (1, .ref 0), (0, .ref 1000)], [.int 3, .int 0, .ref 1000, .int (xs 2), .int (xs 1), .ref 70, .int v])) (hp' := hp1) zfL_961 (fun _ => rfl) (Nat.le_refl _) ?_
  refine r_s (fr' := (963, [(3, .int 0), (2, .ref 70), (1, .ref 0), (0, .ref 1000)], [.int (0 + 3), .ref 1000, .int (xs 2), .int (xs 1), .ref 70, .int v])) (hp' := hp1) zfL_962 (fun _ => rfl) (Nat.le_refl _) ?_
  refine r_scr (n := 3) zfL_963 (by decide) (by decide) ?_
  show zR _ _ _ _ _ (964, [(3, .int 0), (2, .ref 70), (1, .ref 0), (0, .ref 1000)], [.int (xs 3), .int (xs 2), .int (xs 1), .ref 70, .int v]) hp1 _
  refine r_call (ix := 70) (as := [.int (xs 1), .int (xs 2), .int (xs 3)]) (rest := [.int v]) (rv := some (.int v)) (hp' := hp2) zfL_964 har276 rfl rfl rfl q1 (Nat.le_of_ble_eq_true rfl) k2 m2 ?_
  show zR _ _ _ _ _ (967, [(3, .int 0), (2, .ref 70), (1, .ref 0), (0, .ref 1000)], [.int v, .int v]) hp2 _
  refine r_ifc zfL_967 (fun _ => ?_) (fun h => absurd h (by simp [zcmp]))
  exact K
theorem zLk_28 {hp : zHp} (F : zFr0 hp) (xs : Nat → Int32) : ∃ hp2 : zHp, hp2.1 ≤ 2000 ∧ ∀ r, zR (some (6, xs)) 20 4 ret zcL (1041, [(3, .int 0), (2, .ref 70), (1, .ref 0), (0, .ref 1000)], []) hp2 r → zR (some (6, xs)) 20 4 ret zcL (972, [(3, .int 0), (2, .ref 70), (1, .ref 0), (0, .ref 1000)], []) hp r := by
  obtain ⟨v, hp1, hp2, k1, m1, q1, k2, m2, mm⟩ := zK_28 F (xs 1)
  refine ⟨hp2, mm, fun r K => ?_⟩
  refine r_s (fr' := (973, [(3, .int 0), (2, .ref 70), (1, .ref 0), (0, .ref 1000)], [.ref 0])) (hp' := hp) zfL_972 (fun _ => rfl) (Nat.le_refl _) ?_
  refine r_s (fr' := (974, [(3, .int 0), (2, .ref 70), (1, .ref 0), (0, .ref 1000)], [.ref 1000, .ref 0])) (hp' := hp) zfL_973 (fun _ => rfl) (Nat.le_refl _) ?_
  refine r_s (fr' := (975, [(3, .int 0), (2, .ref 70), (1, .ref 0), (0, .ref 1000)], [.int 0, .ref 1000, .ref 0])) (hp' := hp) zfL_974 (fun _ => rfl) (Nat.le_refl _) ?_
  refine r_s (fr' := (976, [(3, .int 0), (2, .ref 70), (1, .ref 0), (0, .ref 1000)], [.int 1, .int 0, .ref 1000, .ref 0])) (hp' := hp) zfL_975 (fun _ => rfl) (Nat.le_refl _) ?_
  refine r_s (fr' := (977, [(3, .int 0), (2, .ref 70), (1, .ref 0), (0, .ref 1000)], [.int (0 + 1), .ref 1000, .ref 0])) (hp' := hp) zfL_976 (fun _ => rfl) (Nat.le_refl _) ?_
  refine r_scr (n := 1) zfL_977 (by decide) (by decide) ?_
  show zR _ _ _ _ _ (978, [(3, .int 0), (2, .ref 70), (1, .ref 0), (0, .ref 1000)], [.int (xs 1), .ref 0]) hp _
  refine r_call (ix := 0) (as := [.int (xs 1)]) (rest := []) (rv := some (.int v)) (hp' := hp1) zfL_978 har154 rfl rfl rfl (hk0 F) (Nat.le_of_ble_eq_true rfl) k1 m1 ?_
  show zR _ _ _ _ _ (981, [(3, .int 0), (2, .ref 70), (1, .ref 0), (0, .ref 1000)], [.int v]) hp1 _
  refine r_s (fr' := (982, [(3, .int 0), (2, .ref 70), (1, .ref 0), (0, .ref 1000)], [.ref 70, .int v])) (hp' := hp1) zfL_981 (fun _ => rfl) (Nat.le_refl _) ?_
  refine r_s (fr' := (983, [(3, .int 0), (2, .ref 70), (1, .ref 0), (0, .ref 1000)], [.ref 1000, .ref 70, .int v])) (hp' := hp1) zfL_982 (fun _ => rfl) (Nat.le_refl _) ?_
  refine r_s (fr' := (984, [(3, .int 0), (2, .ref 70), (1, .ref 0), (0, .ref 1000)], [.int 0, .ref 1000, .ref 70, .int v])) (hp' := hp1) zfL_983 (fun _ => rfl) (Nat.le_refl _) ?_
  refine r_s (fr' := (985, [(3, .int 0), (2, .ref 70), (1, .ref 0), (0, .ref 1000)], [.int 1, .int 0, .ref 1000, .ref 70, .int v])) (hp' := hp1) zfL_984 (fun _ => rfl) (Nat.le_refl _) ?_
  refine r_s (fr' := (986, [(3, .int 0), (2, .ref 70), (1, .ref 0), (0, .ref 1000)], [.int (0 + 1), .ref 1000, .ref 70, .int v])) (hp' := hp1) zfL_985 (fun _ => rfl) (Nat.le_refl _) ?_
  refine r_scr (n := 1) zfL_986 (by decide) (by decide) ?_
  show zR _ _ _ _ _ (987, [(3, .int 0), (2, .ref 70), (1, .ref 0), (0, .ref 1000)], [.int (xs 1), .ref 70, .int v]) hp1 _
  refine r_call (ix := 70) (as := [.int (xs 1)]) (rest := [.int v]) (rv := some (.int v)) (hp' := hp2) zfL_987 har277 rfl rfl rfl q1 (Nat.le_of_ble_eq_true rfl) k2 m2 ?_
  show zR _ _ _ _ _ (990, [(3, .int 0), (2, .ref 70), (1, .ref 0), (0, .ref 1000)], [.int v, .int v]) hp2 _
  refine r_ifc zfL_990 (fun _ => ?_) (fun h => absurd h (by simp [zcmp]))
  exact K
theorem zLk_29 {hp : zHp} (F : zFr0 hp) (xs : Nat → Int32) : ∃ hp2 : zHp, hp2.1 ≤ 2000 ∧ ∀ r, zR (some (6, xs)) 20 4 ret zcL (1041, [(3, .int 0), (2, .ref 70), (1, .ref 0), (0, .ref 1000)], []) hp2 r → zR (some (6, xs)) 20 4 ret zcL (995, [(3, .int 0), (2, .ref 70), (1, .ref 0), (0, .ref 1000)], []) hp r := by
  obtain ⟨v, hp1, hp2, k1, m1, q1, k2, m2, mm⟩ := zK_29 F (xs 1)
  refine ⟨hp2, mm, fun r K => ?_⟩
  refine r_s (fr' := (996, [(3, .int 0), (2, .ref 70), (1, .ref 0), (0, .ref 1000)], [.ref 0])) (hp' := hp) zfL_995 (fun _ => rfl) (Nat.le_refl _) ?_
  refine r_s (fr' := (997, [(3, .int 0), (2, .ref 70), (1, .ref 0), (0, .ref 1000)], [.ref 1000, .ref 0])) (hp' := hp) zfL_996 (fun _ => rfl) (Nat.le_refl _) ?_
  refine r_s (fr' := (998, [(3, .int 0), (2, .ref 70), (1, .ref 0), (0, .ref 1000)], [.int 0, .ref 1000, .ref 0])) (hp' := hp) zfL_997 (fun _ => rfl) (Nat.le_refl _) ?_
  refine r_s (fr' := (999, [(3, .int 0), (2, .ref 70), (1, .ref 0), (0, .ref 1000)], [.int 1, .int 0, .ref 1000, .ref 0])) (hp' := hp) zfL_998 (fun _ => rfl) (Nat.le_refl _) ?_
  refine r_s (fr' := (1000, [(3, .int 0), (2, .ref 70), (1, .ref 0), (0, .ref 1000)], [.int (0 + 1), .ref 1000, .ref 0])) (hp' := hp) zfL_999 (fun _ => rfl) (Nat.le_refl _) ?_
  refine r_scr (n := 1) zfL_1000 (by decide) (by decide) ?_
  show zR _ _ _ _ _ (1001, [(3, .int 0), (2, .ref 70), (1, .ref 0), (0, .ref 1000)], [.int (xs 1), .ref 0]) hp _
  refine r_call (ix := 0) (as := [.int (xs 1)]) (rest := []) (rv := some (.int v)) (hp' := hp1) zfL_1001 har155 rfl rfl rfl (hk0 F) (Nat.le_of_ble_eq_true rfl) k1 m1 ?_
  show zR _ _ _ _ _ (1004, [(3, .int 0), (2, .ref 70), (1, .ref 0), (0, .ref 1000)], [.int v]) hp1 _
  refine r_s (fr' := (1005, [(3, .int 0), (2, .ref 70), (1, .ref 0), (0, .ref 1000)], [.ref 70, .int v])) (hp' := hp1) zfL_1004 (fun _ => rfl) (Nat.le_refl _) ?_
  refine r_s (fr' := (1006, [(3, .int 0), (2, .ref 70), (1, .ref 0), (0, .ref 1000)], [.ref 1000, .ref 70, .int v])) (hp' := hp1) zfL_1005 (fun _ => rfl) (Nat.le_refl _) ?_
  refine r_s (fr' := (1007, [(3, .int 0), (2, .ref 70), (1, .ref 0), (0, .ref 1000)], [.int 0, .ref 1000, .ref 70, .int v])) (hp' := hp1) zfL_1006 (fun _ => rfl) (Nat.le_refl _) ?_
  refine r_s (fr' := (1008, [(3, .int 0), (2, .ref 70), (1, .ref 0), (0, .ref 1000)], [.int 1, .int 0, .ref 1000, .ref 70, .int v])) (hp' := hp1) zfL_1007 (fun _ => rfl) (Nat.le_refl _) ?_
  refine r_s (fr' := (1009, [(3, .int 0), (2, .ref 70), (1, .ref 0), (0, .ref 1000)], [.int (0 + 1), .ref 1000, .ref 70, .int v])) (hp' := hp1) zfL_1008 (fun _ => rfl) (Nat.le_refl _) ?_
  refine r_scr (n := 1) zfL_1009 (by decide) (by decide) ?_
  show zR _ _ _ _ _ (1010, [(3, .int 0), (2, .ref 70), (1, .ref 0), (0, .ref 1000)], [.int (xs 1), .ref 70, .int v]) hp1 _
  refine r_call (ix := 70) (as := [.int (xs 1)]) (rest := [.int v]) (rv := some (.int v)) (hp' := hp2) zfL_1010 har278 rfl rfl rfl q1 (Nat.le_of_ble_eq_true rfl) k2 m2 ?_
  show zR _ _ _ _ _ (1013, [(3, .int 0), (2, .ref 70), (1, .ref 0), (0, .ref 1000)], [.int v, .int v]) hp2 _
  refine r_ifc zfL_1013 (fun _ => ?_) (fun h => absurd h (by simp [zcmp]))
  exact K
theorem zLk_30 {hp : zHp} (F : zFr0 hp) (xs : Nat → Int32) : ∃ hp2 : zHp, hp2.1 ≤ 2000 ∧ ∀ r, zR (some (6, xs)) 20 4 ret zcL (1041, [(3, .int 0), (2, .ref 70), (1, .ref 0), (0, .ref 1000)], []) hp2 r → zR (some (6, xs)) 20 4 ret zcL (1018, [(3, .int 0), (2, .ref 70), (1, .ref 0), (0, .ref 1000)], []) hp r := by
  obtain ⟨v, hp1, hp2, k1, m1, q1, k2, m2, mm⟩ := zK_30 F (xs 1)
  refine ⟨hp2, mm, fun r K => ?_⟩
  refine r_s (fr' := (1019, [(3, .int 0), (2, .ref 70), (1, .ref 0), (0, .ref 1000)], [.ref 0])) (hp' := hp) zfL_1018 (fun _ => rfl) (Nat.le_refl _) ?_
  refine r_s (fr' := (1020, [(3, .int 0), (2, .ref 70), (1, .ref 0), (0, .ref 1000)], [.ref 1000, .ref 0])) (hp' := hp) zfL_1019 (fun _ => rfl) (Nat.le_refl _) ?_
  refine r_s (fr' := (1021, [(3, .int 0), (2, .ref 70), (1, .ref 0), (0, .ref 1000)], [.int 0, .ref 1000, .ref 0])) (hp' := hp) zfL_1020 (fun _ => rfl) (Nat.le_refl _) ?_
  refine r_s (fr' := (1022, [(3, .int 0), (2, .ref 70), (1, .ref 0), (0, .ref 1000)], [.int 1, .int 0, .ref 1000, .ref 0])) (hp' := hp) zfL_1021 (fun _ => rfl) (Nat.le_refl _) ?_
  refine r_s (fr' := (1023, [(3, .int 0), (2, .ref 70), (1, .ref 0), (0, .ref 1000)], [.int (0 + 1), .ref 1000, .ref 0])) (hp' := hp) zfL_1022 (fun _ => rfl) (Nat.le_refl _) ?_
  refine r_scr (n := 1) zfL_1023 (by decide) (by decide) ?_
  show zR _ _ _ _ _ (1024, [(3, .int 0), (2, .ref 70), (1, .ref 0), (0, .ref 1000)], [.int (xs 1), .ref 0]) hp _
  refine r_call (ix := 0) (as := [.int (xs 1)]) (rest := []) (rv := some (.int v)) (hp' := hp1) zfL_1024 har156 rfl rfl rfl (hk0 F) (Nat.le_of_ble_eq_true rfl) k1 m1 ?_
  show zR _ _ _ _ _ (1027, [(3, .int 0), (2, .ref 70), (1, .ref 0), (0, .ref 1000)], [.int v]) hp1 _
  refine r_s (fr' := (1028, [(3, .int 0), (2, .ref 70), (1, .ref 0), (0, .ref 1000)], [.ref 70, .int v])) (hp' := hp1) zfL_1027 (fun _ => rfl) (Nat.le_refl _) ?_
  refine r_s (fr' := (1029, [(3, .int 0), (2, .ref 70), (1, .ref 0), (0, .ref 1000)], [.ref 1000, .ref 70, .int v])) (hp' := hp1) zfL_1028 (fun _ => rfl) (Nat.le_refl _) ?_
  refine r_s (fr' := (1030, [(3, .int 0), (2, .ref 70), (1, .ref 0), (0, .ref 1000)], [.int 0, .ref 1000, .ref 70, .int v])) (hp' := hp1) zfL_1029 (fun _ => rfl) (Nat.le_refl _) ?_
  refine r_s (fr' := (1031, [(3, .int 0), (2, .ref 70), (1, .ref 0), (0, .ref 1000)], [.int 1, .int 0, .ref 1000, .ref 70, .int v])) (hp' := hp1) zfL_1030 (fun _ => rfl) (Nat.le_refl _) ?_
  refine r_s (fr' := (1032, [(3, .int 0), (2, .ref 70), (1, .ref 0), (0, .ref 1000)], [.int (0 + 1), .ref 1000, .ref 70, .int v])) (hp' := hp1) zfL_1031 (fun _ => rfl) (Nat.le_refl _) ?_
  refine r_scr (n := 1) zfL_1032 (by decide) (by decide) ?_
  show zR _ _ _ _ _ (1033, [(3, .int 0), (2, .ref 70), (1, .ref 0), (0, .ref 1000)], [.int (xs 1), .ref 70, .int v]) hp1 _
  refine r_call (ix := 70) (as := [.int (xs 1)]) (rest := [.int v]) (rv := some (.int v)) (hp' := hp2) zfL_1033 har279 rfl rfl rfl q1 (Nat.le_of_ble_eq_true rfl) k2 m2 ?_
  show zR _ _ _ _ _ (1036, [(3, .int 0), (2, .ref 70), (1, .ref 0), (0, .ref 1000)], [.int v, .int v]) hp2 _
  refine r_ifc zfL_1036 (fun _ => ?_) (fun h => absurd h (by simp [zcmp]))
  exact K
theorem ztail (xs : Nat → Int32) (hp : zHp) : zR (some (6, xs)) 20 4 ret zcL (1041, [(3, .int 0), (2, .ref 70), (1, .ref 0), (0, .ref 1000)], []) hp (some (.int 1), hp) := by
  refine r_inc (x := 0) (v := 6) zfL_1041 rfl (by decide) (by decide) ?_
  show zR _ _ _ _ _ (1044, [(3, .int 6), (2, .ref 70), (1, .ref 0), (0, .ref 1000)], []) hp _
  refine r_s (fr' := (18, [(3, .int 6), (2, .ref 70), (1, .ref 0), (0, .ref 1000)], [])) (hp' := hp) zfL_1044 (fun _ => rfl) (Nat.le_refl _) ?_
  refine r_s (fr' := (19, [(3, .int 6), (2, .ref 70), (1, .ref 0), (0, .ref 1000)], [.int 6])) (hp' := hp) zfL_18 (fun _ => rfl) (Nat.le_refl _) ?_
  refine r_s (fr' := (20, [(3, .int 6), (2, .ref 70), (1, .ref 0), (0, .ref 1000)], [.ref 1000, .int 6])) (hp' := hp) zfL_19 (fun _ => rfl) (Nat.le_refl _) ?_
  refine r_alen zfL_20 ?_
  refine r_s (fr' := (23, [(3, .int 6), (2, .ref 70), (1, .ref 0), (0, .ref 1000)], [.int 6, .int (Int32.ofNat 6), .int 6])) (hp' := hp) zfL_21 (fun _ => rfl) (Nat.le_refl _) ?_
  refine r_s (fr' := (24, [(3, .int 6), (2, .ref 70), (1, .ref 0), (0, .ref 1000)], [.int (Int32.ofNat 6 - 6), .int 6])) (hp' := hp) zfL_23 (fun _ => rfl) (Nat.le_refl _) ?_
  refine r_ifc zfL_24 (fun _ => ?_) (fun h => absurd h (by decide))
  refine r_s (fr' := (1048, [(3, .int 6), (2, .ref 70), (1, .ref 0), (0, .ref 1000)], [.int 1])) (hp' := hp) zfL_1047 (fun _ => rfl) (Nat.le_refl _) ?_
  exact r_ret zfL_1048 rfl (fun _ => rfl)
theorem zhead {hp : zHp} (F : zFr0 hp) (xs : Nat → Int32) (r : zRe) (K : zR (some (6, xs)) 20 4 ret zcL (33, [(3, .int 0), (2, .ref 70), (1, .ref 0), (0, .ref 1000)], [.int (xs 0 &&& 31)]) hp r) : zR (some (6, xs)) 20 4 ret zcL (0, [(0, .ref zSC)], []) zh0 r := by
  refine r_N (f := 1000) 10 (zpre_at F) ?_
  refine r_s (fr' := (19, [(3, .int 0), (2, .ref 70), (1, .ref 0), (0, .ref 1000)], [.int 0])) (hp' := hp) zfL_18 (fun _ => rfl) (Nat.le_refl _) ?_
  refine r_s (fr' := (20, [(3, .int 0), (2, .ref 70), (1, .ref 0), (0, .ref 1000)], [.ref 1000, .int 0])) (hp' := hp) zfL_19 (fun _ => rfl) (Nat.le_refl _) ?_
  refine r_alen zfL_20 ?_
  refine r_s (fr' := (23, [(3, .int 0), (2, .ref 70), (1, .ref 0), (0, .ref 1000)], [.int 6, .int (Int32.ofNat 6), .int 0])) (hp' := hp) zfL_21 (fun _ => rfl) (Nat.le_refl _) ?_
  refine r_s (fr' := (24, [(3, .int 0), (2, .ref 70), (1, .ref 0), (0, .ref 1000)], [.int (Int32.ofNat 6 - 6), .int 0])) (hp' := hp) zfL_23 (fun _ => rfl) (Nat.le_refl _) ?_
  refine r_ifc zfL_24 (fun h => absurd h (by decide)) (fun _ => ?_)
  refine r_s (fr' := (28, [(3, .int 0), (2, .ref 70), (1, .ref 0), (0, .ref 1000)], [.ref 1000])) (hp' := hp) zfL_27 (fun _ => rfl) (Nat.le_refl _) ?_
  refine r_s (fr' := (29, [(3, .int 0), (2, .ref 70), (1, .ref 0), (0, .ref 1000)], [.int 0, .ref 1000])) (hp' := hp) zfL_28 (fun _ => rfl) (Nat.le_refl _) ?_
  refine r_scr (n := 0) zfL_29 (by decide) (by decide) ?_
  refine r_s (fr' := (32, [(3, .int 0), (2, .ref 70), (1, .ref 0), (0, .ref 1000)], [.int 31, .int (xs 0)])) (hp' := hp) zfL_30 (fun _ => rfl) (Nat.le_refl _) ?_
  refine r_s (fr' := (33, [(3, .int 0), (2, .ref 70), (1, .ref 0), (0, .ref 1000)], [.int (xs 0 &&& 31)])) (hp' := hp) zfL_32 (fun _ => rfl) (Nat.le_refl _) ?_
  exact K
theorem zshort_0 {hp : zHp} (F : zFr0 hp) (xs : Nat → Int32) : zR (some (0, xs)) 20 4 ret zcL (0, [(0, .ref zSC)], []) zh0 (some (.int 1), hp) := by
  refine r_N (f := 1000) 10 (zpre_at F) ?_
  refine r_s (fr' := (19, [(3, .int 0), (2, .ref 70), (1, .ref 0), (0, .ref 1000)], [.int 0])) (hp' := hp) zfL_18 (fun _ => rfl) (Nat.le_refl _) ?_
  refine r_s (fr' := (20, [(3, .int 0), (2, .ref 70), (1, .ref 0), (0, .ref 1000)], [.ref 1000, .int 0])) (hp' := hp) zfL_19 (fun _ => rfl) (Nat.le_refl _) ?_
  refine r_alen zfL_20 ?_
  refine r_s (fr' := (23, [(3, .int 0), (2, .ref 70), (1, .ref 0), (0, .ref 1000)], [.int 6, .int (Int32.ofNat 0), .int 0])) (hp' := hp) zfL_21 (fun _ => rfl) (Nat.le_refl _) ?_
  refine r_s (fr' := (24, [(3, .int 0), (2, .ref 70), (1, .ref 0), (0, .ref 1000)], [.int (Int32.ofNat 0 - 6), .int 0])) (hp' := hp) zfL_23 (fun _ => rfl) (Nat.le_refl _) ?_
  refine r_ifc zfL_24 (fun _ => ?_) (fun h => absurd h (by decide))
  refine r_s (fr' := (1048, [(3, .int 0), (2, .ref 70), (1, .ref 0), (0, .ref 1000)], [.int 1])) (hp' := hp) zfL_1047 (fun _ => rfl) (Nat.le_refl _) ?_
  exact r_ret zfL_1048 rfl (fun _ => rfl)
theorem zshort_1 {hp : zHp} (F : zFr0 hp) (xs : Nat → Int32) : zR (some (1, xs)) 20 4 ret zcL (0, [(0, .ref zSC)], []) zh0 (some (.int 1), hp) := by
  refine r_N (f := 1000) 10 (zpre_at F) ?_
  refine r_s (fr' := (19, [(3, .int 0), (2, .ref 70), (1, .ref 0), (0, .ref 1000)], [.int 0])) (hp' := hp) zfL_18 (fun _ => rfl) (Nat.le_refl _) ?_
  refine r_s (fr' := (20, [(3, .int 0), (2, .ref 70), (1, .ref 0), (0, .ref 1000)], [.ref 1000, .int 0])) (hp' := hp) zfL_19 (fun _ => rfl) (Nat.le_refl _) ?_
  refine r_alen zfL_20 ?_
  refine r_s (fr' := (23, [(3, .int 0), (2, .ref 70), (1, .ref 0), (0, .ref 1000)], [.int 6, .int (Int32.ofNat 1), .int 0])) (hp' := hp) zfL_21 (fun _ => rfl) (Nat.le_refl _) ?_
  refine r_s (fr' := (24, [(3, .int 0), (2, .ref 70), (1, .ref 0), (0, .ref 1000)], [.int (Int32.ofNat 1 - 6), .int 0])) (hp' := hp) zfL_23 (fun _ => rfl) (Nat.le_refl _) ?_
  refine r_ifc zfL_24 (fun _ => ?_) (fun h => absurd h (by decide))
  refine r_s (fr' := (1048, [(3, .int 0), (2, .ref 70), (1, .ref 0), (0, .ref 1000)], [.int 1])) (hp' := hp) zfL_1047 (fun _ => rfl) (Nat.le_refl _) ?_
  exact r_ret zfL_1048 rfl (fun _ => rfl)
theorem zshort_2 {hp : zHp} (F : zFr0 hp) (xs : Nat → Int32) : zR (some (2, xs)) 20 4 ret zcL (0, [(0, .ref zSC)], []) zh0 (some (.int 1), hp) := by
  refine r_N (f := 1000) 10 (zpre_at F) ?_
  refine r_s (fr' := (19, [(3, .int 0), (2, .ref 70), (1, .ref 0), (0, .ref 1000)], [.int 0])) (hp' := hp) zfL_18 (fun _ => rfl) (Nat.le_refl _) ?_
  refine r_s (fr' := (20, [(3, .int 0), (2, .ref 70), (1, .ref 0), (0, .ref 1000)], [.ref 1000, .int 0])) (hp' := hp) zfL_19 (fun _ => rfl) (Nat.le_refl _) ?_
  refine r_alen zfL_20 ?_
  refine r_s (fr' := (23, [(3, .int 0), (2, .ref 70), (1, .ref 0), (0, .ref 1000)], [.int 6, .int (Int32.ofNat 2), .int 0])) (hp' := hp) zfL_21 (fun _ => rfl) (Nat.le_refl _) ?_
  refine r_s (fr' := (24, [(3, .int 0), (2, .ref 70), (1, .ref 0), (0, .ref 1000)], [.int (Int32.ofNat 2 - 6), .int 0])) (hp' := hp) zfL_23 (fun _ => rfl) (Nat.le_refl _) ?_
  refine r_ifc zfL_24 (fun _ => ?_) (fun h => absurd h (by decide))
  refine r_s (fr' := (1048, [(3, .int 0), (2, .ref 70), (1, .ref 0), (0, .ref 1000)], [.int 1])) (hp' := hp) zfL_1047 (fun _ => rfl) (Nat.le_refl _) ?_
  exact r_ret zfL_1048 rfl (fun _ => rfl)
theorem zshort_3 {hp : zHp} (F : zFr0 hp) (xs : Nat → Int32) : zR (some (3, xs)) 20 4 ret zcL (0, [(0, .ref zSC)], []) zh0 (some (.int 1), hp) := by
  refine r_N (f := 1000) 10 (zpre_at F) ?_
  refine r_s (fr' := (19, [(3, .int 0), (2, .ref 70), (1, .ref 0), (0, .ref 1000)], [.int 0])) (hp' := hp) zfL_18 (fun _ => rfl) (Nat.le_refl _) ?_
  refine r_s (fr' := (20, [(3, .int 0), (2, .ref 70), (1, .ref 0), (0, .ref 1000)], [.ref 1000, .int 0])) (hp' := hp) zfL_19 (fun _ => rfl) (Nat.le_refl _) ?_
  refine r_alen zfL_20 ?_
  refine r_s (fr' := (23, [(3, .int 0), (2, .ref 70), (1, .ref 0), (0, .ref 1000)], [.int 6, .int (Int32.ofNat 3), .int 0])) (hp' := hp) zfL_21 (fun _ => rfl) (Nat.le_refl _) ?_
  refine r_s (fr' := (24, [(3, .int 0), (2, .ref 70), (1, .ref 0), (0, .ref 1000)], [.int (Int32.ofNat 3 - 6), .int 0])) (hp' := hp) zfL_23 (fun _ => rfl) (Nat.le_refl _) ?_
  refine r_ifc zfL_24 (fun _ => ?_) (fun h => absurd h (by decide))
  refine r_s (fr' := (1048, [(3, .int 0), (2, .ref 70), (1, .ref 0), (0, .ref 1000)], [.int 1])) (hp' := hp) zfL_1047 (fun _ => rfl) (Nat.le_refl _) ?_
  exact r_ret zfL_1048 rfl (fun _ => rfl)
theorem zshort_4 {hp : zHp} (F : zFr0 hp) (xs : Nat → Int32) : zR (some (4, xs)) 20 4 ret zcL (0, [(0, .ref zSC)], []) zh0 (some (.int 1), hp) := by
  refine r_N (f := 1000) 10 (zpre_at F) ?_
  refine r_s (fr' := (19, [(3, .int 0), (2, .ref 70), (1, .ref 0), (0, .ref 1000)], [.int 0])) (hp' := hp) zfL_18 (fun _ => rfl) (Nat.le_refl _) ?_
  refine r_s (fr' := (20, [(3, .int 0), (2, .ref 70), (1, .ref 0), (0, .ref 1000)], [.ref 1000, .int 0])) (hp' := hp) zfL_19 (fun _ => rfl) (Nat.le_refl _) ?_
  refine r_alen zfL_20 ?_
  refine r_s (fr' := (23, [(3, .int 0), (2, .ref 70), (1, .ref 0), (0, .ref 1000)], [.int 6, .int (Int32.ofNat 4), .int 0])) (hp' := hp) zfL_21 (fun _ => rfl) (Nat.le_refl _) ?_
  refine r_s (fr' := (24, [(3, .int 0), (2, .ref 70), (1, .ref 0), (0, .ref 1000)], [.int (Int32.ofNat 4 - 6), .int 0])) (hp' := hp) zfL_23 (fun _ => rfl) (Nat.le_refl _) ?_
  refine r_ifc zfL_24 (fun _ => ?_) (fun h => absurd h (by decide))
  refine r_s (fr' := (1048, [(3, .int 0), (2, .ref 70), (1, .ref 0), (0, .ref 1000)], [.int 1])) (hp' := hp) zfL_1047 (fun _ => rfl) (Nat.le_refl _) ?_
  exact r_ret zfL_1048 rfl (fun _ => rfl)
theorem zshort_5 {hp : zHp} (F : zFr0 hp) (xs : Nat → Int32) : zR (some (5, xs)) 20 4 ret zcL (0, [(0, .ref zSC)], []) zh0 (some (.int 1), hp) := by
  refine r_N (f := 1000) 10 (zpre_at F) ?_
  refine r_s (fr' := (19, [(3, .int 0), (2, .ref 70), (1, .ref 0), (0, .ref 1000)], [.int 0])) (hp' := hp) zfL_18 (fun _ => rfl) (Nat.le_refl _) ?_
  refine r_s (fr' := (20, [(3, .int 0), (2, .ref 70), (1, .ref 0), (0, .ref 1000)], [.ref 1000, .int 0])) (hp' := hp) zfL_19 (fun _ => rfl) (Nat.le_refl _) ?_
  refine r_alen zfL_20 ?_
  refine r_s (fr' := (23, [(3, .int 0), (2, .ref 70), (1, .ref 0), (0, .ref 1000)], [.int 6, .int (Int32.ofNat 5), .int 0])) (hp' := hp) zfL_21 (fun _ => rfl) (Nat.le_refl _) ?_
  refine r_s (fr' := (24, [(3, .int 0), (2, .ref 70), (1, .ref 0), (0, .ref 1000)], [.int (Int32.ofNat 5 - 6), .int 0])) (hp' := hp) zfL_23 (fun _ => rfl) (Nat.le_refl _) ?_
  refine r_ifc zfL_24 (fun _ => ?_) (fun h => absurd h (by decide))
  refine r_s (fr' := (1048, [(3, .int 0), (2, .ref 70), (1, .ref 0), (0, .ref 1000)], [.int 1])) (hp' := hp) zfL_1047 (fun _ => rfl) (Nat.le_refl _) ?_
  exact r_ret zfL_1048 rfl (fun _ => rfl)
theorem zsw_0 {hp : zHp} (F : zFr0 hp) (xs : Nat → Int32) (r : zRe) (h : xs 0 &&& 31 = nI 0) (K : zR (some (6, xs)) 20 4 ret zcL (172, [(3, .int 0), (2, .ref 70), (1, .ref 0), (0, .ref 1000)], []) hp r) : zR (some (6, xs)) 20 4 ret zcL (0, [(0, .ref zSC)], []) zh0 r := by
  refine zhead F xs r ?_
  rw [h]
  exact r_s (fr' := (172, [(3, .int 0), (2, .ref 70), (1, .ref 0), (0, .ref 1000)], [])) (hp' := hp) zfL_33 (fun _ => rfl) (Nat.le_refl _) K
theorem zsw_1 {hp : zHp} (F : zFr0 hp) (xs : Nat → Int32) (r : zRe) (h : xs 0 &&& 31 = nI 1) (K : zR (some (6, xs)) 20 4 ret zcL (235, [(3, .int 0), (2, .ref 70), (1, .ref 0), (0, .ref 1000)], []) hp r) : zR (some (6, xs)) 20 4 ret zcL (0, [(0, .ref zSC)], []) zh0 r := by
  refine zhead F xs r ?_
  rw [h]
  exact r_s (fr' := (235, [(3, .int 0), (2, .ref 70), (1, .ref 0), (0, .ref 1000)], [])) (hp' := hp) zfL_33 (fun _ => rfl) (Nat.le_refl _) K
theorem zsw_2 {hp : zHp} (F : zFr0 hp) (xs : Nat → Int32) (r : zRe) (h : xs 0 &&& 31 = nI 2) (K : zR (some (6, xs)) 20 4 ret zcL (258, [(3, .int 0), (2, .ref 70), (1, .ref 0), (0, .ref 1000)], []) hp r) : zR (some (6, xs)) 20 4 ret zcL (0, [(0, .ref zSC)], []) zh0 r := by
  refine zhead F xs r ?_
  rw [h]
  exact r_s (fr' := (258, [(3, .int 0), (2, .ref 70), (1, .ref 0), (0, .ref 1000)], [])) (hp' := hp) zfL_33 (fun _ => rfl) (Nat.le_refl _) K
theorem zsw_3 {hp : zHp} (F : zFr0 hp) (xs : Nat → Int32) (r : zRe) (h : xs 0 &&& 31 = nI 3) (K : zR (some (6, xs)) 20 4 ret zcL (271, [(3, .int 0), (2, .ref 70), (1, .ref 0), (0, .ref 1000)], []) hp r) : zR (some (6, xs)) 20 4 ret zcL (0, [(0, .ref zSC)], []) zh0 r := by
  refine zhead F xs r ?_
  rw [h]
  exact r_s (fr' := (271, [(3, .int 0), (2, .ref 70), (1, .ref 0), (0, .ref 1000)], [])) (hp' := hp) zfL_33 (fun _ => rfl) (Nat.le_refl _) K
theorem zsw_4 {hp : zHp} (F : zFr0 hp) (xs : Nat → Int32) (r : zRe) (h : xs 0 &&& 31 = nI 4) (K : zR (some (6, xs)) 20 4 ret zcL (284, [(3, .int 0), (2, .ref 70), (1, .ref 0), (0, .ref 1000)], []) hp r) : zR (some (6, xs)) 20 4 ret zcL (0, [(0, .ref zSC)], []) zh0 r := by
  refine zhead F xs r ?_
  rw [h]
  exact r_s (fr' := (284, [(3, .int 0), (2, .ref 70), (1, .ref 0), (0, .ref 1000)], [])) (hp' := hp) zfL_33 (fun _ => rfl) (Nat.le_refl _) K
theorem zsw_5 {hp : zHp} (F : zFr0 hp) (xs : Nat → Int32) (r : zRe) (h : xs 0 &&& 31 = nI 5) (K : zR (some (6, xs)) 20 4 ret zcL (317, [(3, .int 0), (2, .ref 70), (1, .ref 0), (0, .ref 1000)], []) hp r) : zR (some (6, xs)) 20 4 ret zcL (0, [(0, .ref zSC)], []) zh0 r := by
  refine zhead F xs r ?_
  rw [h]
  exact r_s (fr' := (317, [(3, .int 0), (2, .ref 70), (1, .ref 0), (0, .ref 1000)], [])) (hp' := hp) zfL_33 (fun _ => rfl) (Nat.le_refl _) K
theorem zsw_6 {hp : zHp} (F : zFr0 hp) (xs : Nat → Int32) (r : zRe) (h : xs 0 &&& 31 = nI 6) (K : zR (some (6, xs)) 20 4 ret zcL (350, [(3, .int 0), (2, .ref 70), (1, .ref 0), (0, .ref 1000)], []) hp r) : zR (some (6, xs)) 20 4 ret zcL (0, [(0, .ref zSC)], []) zh0 r := by
  refine zhead F xs r ?_
  rw [h]
  exact r_s (fr' := (350, [(3, .int 0), (2, .ref 70), (1, .ref 0), (0, .ref 1000)], [])) (hp' := hp) zfL_33 (fun _ => rfl) (Nat.le_refl _) K
theorem zsw_7 {hp : zHp} (F : zFr0 hp) (xs : Nat → Int32) (r : zRe) (h : xs 0 &&& 31 = nI 7) (K : zR (some (6, xs)) 20 4 ret zcL (393, [(3, .int 0), (2, .ref 70), (1, .ref 0), (0, .ref 1000)], []) hp r) : zR (some (6, xs)) 20 4 ret zcL (0, [(0, .ref zSC)], []) zh0 r := by
  refine zhead F xs r ?_
  rw [h]
  exact r_s (fr' := (393, [(3, .int 0), (2, .ref 70), (1, .ref 0), (0, .ref 1000)], [])) (hp' := hp) zfL_33 (fun _ => rfl) (Nat.le_refl _) K
theorem zsw_8 {hp : zHp} (F : zFr0 hp) (xs : Nat → Int32) (r : zRe) (h : xs 0 &&& 31 = nI 8) (K : zR (some (6, xs)) 20 4 ret zcL (426, [(3, .int 0), (2, .ref 70), (1, .ref 0), (0, .ref 1000)], []) hp r) : zR (some (6, xs)) 20 4 ret zcL (0, [(0, .ref zSC)], []) zh0 r := by
  refine zhead F xs r ?_
  rw [h]
  exact r_s (fr' := (426, [(3, .int 0), (2, .ref 70), (1, .ref 0), (0, .ref 1000)], [])) (hp' := hp) zfL_33 (fun _ => rfl) (Nat.le_refl _) K
theorem zsw_9 {hp : zHp} (F : zFr0 hp) (xs : Nat → Int32) (r : zRe) (h : xs 0 &&& 31 = nI 9) (K : zR (some (6, xs)) 20 4 ret zcL (449, [(3, .int 0), (2, .ref 70), (1, .ref 0), (0, .ref 1000)], []) hp r) : zR (some (6, xs)) 20 4 ret zcL (0, [(0, .ref zSC)], []) zh0 r := by
  refine zhead F xs r ?_
  rw [h]
  exact r_s (fr' := (449, [(3, .int 0), (2, .ref 70), (1, .ref 0), (0, .ref 1000)], [])) (hp' := hp) zfL_33 (fun _ => rfl) (Nat.le_refl _) K
theorem zsw_10 {hp : zHp} (F : zFr0 hp) (xs : Nat → Int32) (r : zRe) (h : xs 0 &&& 31 = nI 10) (K : zR (some (6, xs)) 20 4 ret zcL (472, [(3, .int 0), (2, .ref 70), (1, .ref 0), (0, .ref 1000)], []) hp r) : zR (some (6, xs)) 20 4 ret zcL (0, [(0, .ref zSC)], []) zh0 r := by
  refine zhead F xs r ?_
  rw [h]
  exact r_s (fr' := (472, [(3, .int 0), (2, .ref 70), (1, .ref 0), (0, .ref 1000)], [])) (hp' := hp) zfL_33 (fun _ => rfl) (Nat.le_refl _) K
theorem zsw_11 {hp : zHp} (F : zFr0 hp) (xs : Nat → Int32) (r : zRe) (h : xs 0 &&& 31 = nI 11) (K : zR (some (6, xs)) 20 4 ret zcL (505, [(3, .int 0), (2, .ref 70), (1, .ref 0), (0, .ref 1000)], []) hp r) : zR (some (6, xs)) 20 4 ret zcL (0, [(0, .ref zSC)], []) zh0 r := by
  refine zhead F xs r ?_
  rw [h]
  exact r_s (fr' := (505, [(3, .int 0), (2, .ref 70), (1, .ref 0), (0, .ref 1000)], [])) (hp' := hp) zfL_33 (fun _ => rfl) (Nat.le_refl _) K
theorem zsw_12 {hp : zHp} (F : zFr0 hp) (xs : Nat → Int32) (r : zRe) (h : xs 0 &&& 31 = nI 12) (K : zR (some (6, xs)) 20 4 ret zcL (518, [(3, .int 0), (2, .ref 70), (1, .ref 0), (0, .ref 1000)], []) hp r) : zR (some (6, xs)) 20 4 ret zcL (0, [(0, .ref zSC)], []) zh0 r := by
  refine zhead F xs r ?_
  rw [h]
  exact r_s (fr' := (518, [(3, .int 0), (2, .ref 70), (1, .ref 0), (0, .ref 1000)], [])) (hp' := hp) zfL_33 (fun _ => rfl) (Nat.le_refl _) K
theorem zsw_13 {hp : zHp} (F : zFr0 hp) (xs : Nat → Int32) (r : zRe) (h : xs 0 &&& 31 = nI 13) (K : zR (some (6, xs)) 20 4 ret zcL (551, [(3, .int 0), (2, .ref 70), (1, .ref 0), (0, .ref 1000)], []) hp r) : zR (some (6, xs)) 20 4 ret zcL (0, [(0, .ref zSC)], []) zh0 r := by
  refine zhead F xs r ?_
  rw [h]
  exact r_s (fr' := (551, [(3, .int 0), (2, .ref 70), (1, .ref 0), (0, .ref 1000)], [])) (hp' := hp) zfL_33 (fun _ => rfl) (Nat.le_refl _) K
theorem zsw_14 {hp : zHp} (F : zFr0 hp) (xs : Nat → Int32) (r : zRe) (h : xs 0 &&& 31 = nI 14) (K : zR (some (6, xs)) 20 4 ret zcL (564, [(3, .int 0), (2, .ref 70), (1, .ref 0), (0, .ref 1000)], []) hp r) : zR (some (6, xs)) 20 4 ret zcL (0, [(0, .ref zSC)], []) zh0 r := by
  refine zhead F xs r ?_
  rw [h]
  exact r_s (fr' := (564, [(3, .int 0), (2, .ref 70), (1, .ref 0), (0, .ref 1000)], [])) (hp' := hp) zfL_33 (fun _ => rfl) (Nat.le_refl _) K
theorem zsw_15 {hp : zHp} (F : zFr0 hp) (xs : Nat → Int32) (r : zRe) (h : xs 0 &&& 31 = nI 15) (K : zR (some (6, xs)) 20 4 ret zcL (577, [(3, .int 0), (2, .ref 70), (1, .ref 0), (0, .ref 1000)], []) hp r) : zR (some (6, xs)) 20 4 ret zcL (0, [(0, .ref zSC)], []) zh0 r := by
  refine zhead F xs r ?_
  rw [h]
  exact r_s (fr' := (577, [(3, .int 0), (2, .ref 70), (1, .ref 0), (0, .ref 1000)], [])) (hp' := hp) zfL_33 (fun _ => rfl) (Nat.le_refl _) K
theorem zsw_16 {hp : zHp} (F : zFr0 hp) (xs : Nat → Int32) (r : zRe) (h : xs 0 &&& 31 = nI 16) (K : zR (some (6, xs)) 20 4 ret zcL (610, [(3, .int 0), (2, .ref 70), (1, .ref 0), (0, .ref 1000)], []) hp r) : zR (some (6, xs)) 20 4 ret zcL (0, [(0, .ref zSC)], []) zh0 r := by
  refine zhead F xs r ?_
  rw [h]
  exact r_s (fr' := (610, [(3, .int 0), (2, .ref 70), (1, .ref 0), (0, .ref 1000)], [])) (hp' := hp) zfL_33 (fun _ => rfl) (Nat.le_refl _) K
theorem zsw_17 {hp : zHp} (F : zFr0 hp) (xs : Nat → Int32) (r : zRe) (h : xs 0 &&& 31 = nI 17) (K : zR (some (6, xs)) 20 4 ret zcL (679, [(3, .int 0), (2, .ref 70), (1, .ref 0), (0, .ref 1000)], []) hp r) : zR (some (6, xs)) 20 4 ret zcL (0, [(0, .ref zSC)], []) zh0 r := by
  refine zhead F xs r ?_
  rw [h]
  exact r_s (fr' := (679, [(3, .int 0), (2, .ref 70), (1, .ref 0), (0, .ref 1000)], [])) (hp' := hp) zfL_33 (fun _ => rfl) (Nat.le_refl _) K
theorem zsw_18 {hp : zHp} (F : zFr0 hp) (xs : Nat → Int32) (r : zRe) (h : xs 0 &&& 31 = nI 18) (K : zR (some (6, xs)) 20 4 ret zcL (702, [(3, .int 0), (2, .ref 70), (1, .ref 0), (0, .ref 1000)], []) hp r) : zR (some (6, xs)) 20 4 ret zcL (0, [(0, .ref zSC)], []) zh0 r := by
  refine zhead F xs r ?_
  rw [h]
  exact r_s (fr' := (702, [(3, .int 0), (2, .ref 70), (1, .ref 0), (0, .ref 1000)], [])) (hp' := hp) zfL_33 (fun _ => rfl) (Nat.le_refl _) K
theorem zsw_19 {hp : zHp} (F : zFr0 hp) (xs : Nat → Int32) (r : zRe) (h : xs 0 &&& 31 = nI 19) (K : zR (some (6, xs)) 20 4 ret zcL (725, [(3, .int 0), (2, .ref 70), (1, .ref 0), (0, .ref 1000)], []) hp r) : zR (some (6, xs)) 20 4 ret zcL (0, [(0, .ref zSC)], []) zh0 r := by
  refine zhead F xs r ?_
  rw [h]
  exact r_s (fr' := (725, [(3, .int 0), (2, .ref 70), (1, .ref 0), (0, .ref 1000)], [])) (hp' := hp) zfL_33 (fun _ => rfl) (Nat.le_refl _) K
theorem zsw_20 {hp : zHp} (F : zFr0 hp) (xs : Nat → Int32) (r : zRe) (h : xs 0 &&& 31 = nI 20) (K : zR (some (6, xs)) 20 4 ret zcL (758, [(3, .int 0), (2, .ref 70), (1, .ref 0), (0, .ref 1000)], []) hp r) : zR (some (6, xs)) 20 4 ret zcL (0, [(0, .ref zSC)], []) zh0 r := by
  refine zhead F xs r ?_
  rw [h]
  exact r_s (fr' := (758, [(3, .int 0), (2, .ref 70), (1, .ref 0), (0, .ref 1000)], [])) (hp' := hp) zfL_33 (fun _ => rfl) (Nat.le_refl _) K
theorem zsw_21 {hp : zHp} (F : zFr0 hp) (xs : Nat → Int32) (r : zRe) (h : xs 0 &&& 31 = nI 21) (K : zR (some (6, xs)) 20 4 ret zcL (781, [(3, .int 0), (2, .ref 70), (1, .ref 0), (0, .ref 1000)], []) hp r) : zR (some (6, xs)) 20 4 ret zcL (0, [(0, .ref zSC)], []) zh0 r := by
  refine zhead F xs r ?_
  rw [h]
  exact r_s (fr' := (781, [(3, .int 0), (2, .ref 70), (1, .ref 0), (0, .ref 1000)], [])) (hp' := hp) zfL_33 (fun _ => rfl) (Nat.le_refl _) K
theorem zsw_22 {hp : zHp} (F : zFr0 hp) (xs : Nat → Int32) (r : zRe) (h : xs 0 &&& 31 = nI 22) (K : zR (some (6, xs)) 20 4 ret zcL (804, [(3, .int 0), (2, .ref 70), (1, .ref 0), (0, .ref 1000)], []) hp r) : zR (some (6, xs)) 20 4 ret zcL (0, [(0, .ref zSC)], []) zh0 r := by
  refine zhead F xs r ?_
  rw [h]
  exact r_s (fr' := (804, [(3, .int 0), (2, .ref 70), (1, .ref 0), (0, .ref 1000)], [])) (hp' := hp) zfL_33 (fun _ => rfl) (Nat.le_refl _) K
theorem zsw_23 {hp : zHp} (F : zFr0 hp) (xs : Nat → Int32) (r : zRe) (h : xs 0 &&& 31 = nI 23) (K : zR (some (6, xs)) 20 4 ret zcL (827, [(3, .int 0), (2, .ref 70), (1, .ref 0), (0, .ref 1000)], []) hp r) : zR (some (6, xs)) 20 4 ret zcL (0, [(0, .ref zSC)], []) zh0 r := by
  refine zhead F xs r ?_
  rw [h]
  exact r_s (fr' := (827, [(3, .int 0), (2, .ref 70), (1, .ref 0), (0, .ref 1000)], [])) (hp' := hp) zfL_33 (fun _ => rfl) (Nat.le_refl _) K
theorem zsw_24 {hp : zHp} (F : zFr0 hp) (xs : Nat → Int32) (r : zRe) (h : xs 0 &&& 31 = nI 24) (K : zR (some (6, xs)) 20 4 ret zcL (860, [(3, .int 0), (2, .ref 70), (1, .ref 0), (0, .ref 1000)], []) hp r) : zR (some (6, xs)) 20 4 ret zcL (0, [(0, .ref zSC)], []) zh0 r := by
  refine zhead F xs r ?_
  rw [h]
  exact r_s (fr' := (860, [(3, .int 0), (2, .ref 70), (1, .ref 0), (0, .ref 1000)], [])) (hp' := hp) zfL_33 (fun _ => rfl) (Nat.le_refl _) K
theorem zsw_25 {hp : zHp} (F : zFr0 hp) (xs : Nat → Int32) (r : zRe) (h : xs 0 &&& 31 = nI 25) (K : zR (some (6, xs)) 20 4 ret zcL (883, [(3, .int 0), (2, .ref 70), (1, .ref 0), (0, .ref 1000)], []) hp r) : zR (some (6, xs)) 20 4 ret zcL (0, [(0, .ref zSC)], []) zh0 r := by
  refine zhead F xs r ?_
  rw [h]
  exact r_s (fr' := (883, [(3, .int 0), (2, .ref 70), (1, .ref 0), (0, .ref 1000)], [])) (hp' := hp) zfL_33 (fun _ => rfl) (Nat.le_refl _) K
theorem zsw_26 {hp : zHp} (F : zFr0 hp) (xs : Nat → Int32) (r : zRe) (h : xs 0 &&& 31 = nI 26) (K : zR (some (6, xs)) 20 4 ret zcL (906, [(3, .int 0), (2, .ref 70), (1, .ref 0), (0, .ref 1000)], []) hp r) : zR (some (6, xs)) 20 4 ret zcL (0, [(0, .ref zSC)], []) zh0 r := by
  refine zhead F xs r ?_
  rw [h]
  exact r_s (fr' := (906, [(3, .int 0), (2, .ref 70), (1, .ref 0), (0, .ref 1000)], [])) (hp' := hp) zfL_33 (fun _ => rfl) (Nat.le_refl _) K
theorem zsw_27 {hp : zHp} (F : zFr0 hp) (xs : Nat → Int32) (r : zRe) (h : xs 0 &&& 31 = nI 27) (K : zR (some (6, xs)) 20 4 ret zcL (929, [(3, .int 0), (2, .ref 70), (1, .ref 0), (0, .ref 1000)], []) hp r) : zR (some (6, xs)) 20 4 ret zcL (0, [(0, .ref zSC)], []) zh0 r := by
  refine zhead F xs r ?_
  rw [h]
  exact r_s (fr' := (929, [(3, .int 0), (2, .ref 70), (1, .ref 0), (0, .ref 1000)], [])) (hp' := hp) zfL_33 (fun _ => rfl) (Nat.le_refl _) K
theorem zsw_28 {hp : zHp} (F : zFr0 hp) (xs : Nat → Int32) (r : zRe) (h : xs 0 &&& 31 = nI 28) (K : zR (some (6, xs)) 20 4 ret zcL (972, [(3, .int 0), (2, .ref 70), (1, .ref 0), (0, .ref 1000)], []) hp r) : zR (some (6, xs)) 20 4 ret zcL (0, [(0, .ref zSC)], []) zh0 r := by
  refine zhead F xs r ?_
  rw [h]
  exact r_s (fr' := (972, [(3, .int 0), (2, .ref 70), (1, .ref 0), (0, .ref 1000)], [])) (hp' := hp) zfL_33 (fun _ => rfl) (Nat.le_refl _) K
theorem zsw_29 {hp : zHp} (F : zFr0 hp) (xs : Nat → Int32) (r : zRe) (h : xs 0 &&& 31 = nI 29) (K : zR (some (6, xs)) 20 4 ret zcL (995, [(3, .int 0), (2, .ref 70), (1, .ref 0), (0, .ref 1000)], []) hp r) : zR (some (6, xs)) 20 4 ret zcL (0, [(0, .ref zSC)], []) zh0 r := by
  refine zhead F xs r ?_
  rw [h]
  exact r_s (fr' := (995, [(3, .int 0), (2, .ref 70), (1, .ref 0), (0, .ref 1000)], [])) (hp' := hp) zfL_33 (fun _ => rfl) (Nat.le_refl _) K
theorem zsw_30 {hp : zHp} (F : zFr0 hp) (xs : Nat → Int32) (r : zRe) (h : xs 0 &&& 31 = nI 30) (K : zR (some (6, xs)) 20 4 ret zcL (1018, [(3, .int 0), (2, .ref 70), (1, .ref 0), (0, .ref 1000)], []) hp r) : zR (some (6, xs)) 20 4 ret zcL (0, [(0, .ref zSC)], []) zh0 r := by
  refine zhead F xs r ?_
  rw [h]
  exact r_s (fr' := (1018, [(3, .int 0), (2, .ref 70), (1, .ref 0), (0, .ref 1000)], [])) (hp' := hp) zfL_33 (fun _ => rfl) (Nat.le_refl _) K
theorem zsw_31 {hp : zHp} (F : zFr0 hp) (xs : Nat → Int32) (r : zRe) (h : xs 0 &&& 31 = nI 31) (K : zR (some (6, xs)) 20 4 ret zcL (1041, [(3, .int 0), (2, .ref 70), (1, .ref 0), (0, .ref 1000)], []) hp r) : zR (some (6, xs)) 20 4 ret zcL (0, [(0, .ref zSC)], []) zh0 r := by
  refine zhead F xs r ?_
  rw [h]
  exact r_s (fr' := (1041, [(3, .int 0), (2, .ref 70), (1, .ref 0), (0, .ref 1000)], [])) (hp' := hp) zfL_33 (fun _ => rfl) (Nat.le_refl _) K
theorem zp1_6 {hp : zHp} (F : zFr0 hp) (xs : Nat → Int32) : ∃ hpF : zHp, hpF.1 ≤ 2000 ∧ zR (some (6, xs)) 20 4 ret zcL (0, [(0, .ref zSC)], []) zh0 (some (.int 1), hpF) := by
  obtain ⟨j, hj, h⟩ := pk_andE (xs 0) (m := 31) 5 (by decide)
  have hj : j < 32 := hj
  rcases (show j = 0 ∨ j = 1 ∨ j = 2 ∨ j = 3 ∨ j = 4 ∨ j = 5 ∨ j = 6 ∨ j = 7 ∨ j = 8 ∨ j = 9 ∨ j = 10 ∨ j = 11 ∨ j = 12 ∨ j = 13 ∨ j = 14 ∨ j = 15 ∨ j = 16 ∨ j = 17 ∨ j = 18 ∨ j = 19 ∨ j = 20 ∨ j = 21 ∨ j = 22 ∨ j = 23 ∨ j = 24 ∨ j = 25 ∨ j = 26 ∨ j = 27 ∨ j = 28 ∨ j = 29 ∨ j = 30 ∨ j = 31 by omega) with rfl | rfl | rfl | rfl | rfl | rfl | rfl | rfl | rfl | rfl | rfl | rfl | rfl | rfl | rfl | rfl | rfl | rfl | rfl | rfl | rfl | rfl | rfl | rfl | rfl | rfl | rfl | rfl | rfl | rfl | rfl | rfl
  · obtain ⟨hp2, m, k⟩ := zLk_0 F xs
    exact ⟨hp2, m, zsw_0 F xs _ h (k _ (ztail xs hp2))⟩
  · obtain ⟨hp2, m, k⟩ := zLk_1 F xs
    exact ⟨hp2, m, zsw_1 F xs _ h (k _ (ztail xs hp2))⟩
  · obtain ⟨hp2, m, k⟩ := zLk_2 F xs
    exact ⟨hp2, m, zsw_2 F xs _ h (k _ (ztail xs hp2))⟩
  · obtain ⟨hp2, m, k⟩ := zLk_3 F xs
    exact ⟨hp2, m, zsw_3 F xs _ h (k _ (ztail xs hp2))⟩
  · obtain ⟨hp2, m, k⟩ := zLk_4 F xs
    exact ⟨hp2, m, zsw_4 F xs _ h (k _ (ztail xs hp2))⟩
  · obtain ⟨hp2, m, k⟩ := zLk_5 F xs
    exact ⟨hp2, m, zsw_5 F xs _ h (k _ (ztail xs hp2))⟩
  · obtain ⟨hp2, m, k⟩ := zLk_6 F xs
    exact ⟨hp2, m, zsw_6 F xs _ h (k _ (ztail xs hp2))⟩
  · obtain ⟨hp2, m, k⟩ := zLk_7 F xs
    exact ⟨hp2, m, zsw_7 F xs _ h (k _ (ztail xs hp2))⟩
  · obtain ⟨hp2, m, k⟩ := zLk_8 F xs
    exact ⟨hp2, m, zsw_8 F xs _ h (k _ (ztail xs hp2))⟩
  · obtain ⟨hp2, m, k⟩ := zLk_9 F xs
    exact ⟨hp2, m, zsw_9 F xs _ h (k _ (ztail xs hp2))⟩
  · obtain ⟨hp2, m, k⟩ := zLk_10 F xs
    exact ⟨hp2, m, zsw_10 F xs _ h (k _ (ztail xs hp2))⟩
  · obtain ⟨hp2, m, k⟩ := zLk_11 F xs
    exact ⟨hp2, m, zsw_11 F xs _ h (k _ (ztail xs hp2))⟩
  · obtain ⟨hp2, m, k⟩ := zLk_12 F xs
    exact ⟨hp2, m, zsw_12 F xs _ h (k _ (ztail xs hp2))⟩
  · obtain ⟨hp2, m, k⟩ := zLk_13 F xs
    exact ⟨hp2, m, zsw_13 F xs _ h (k _ (ztail xs hp2))⟩
  · obtain ⟨hp2, m, k⟩ := zLk_14 F xs
    exact ⟨hp2, m, zsw_14 F xs _ h (k _ (ztail xs hp2))⟩
  · obtain ⟨hp2, m, k⟩ := zLk_15 F xs
    exact ⟨hp2, m, zsw_15 F xs _ h (k _ (ztail xs hp2))⟩
  · obtain ⟨hp2, m, k⟩ := zLk_16 F xs
    exact ⟨hp2, m, zsw_16 F xs _ h (k _ (ztail xs hp2))⟩
  · obtain ⟨hp2, m, k⟩ := zLk_17 F xs
    exact ⟨hp2, m, zsw_17 F xs _ h (k _ (ztail xs hp2))⟩
  · obtain ⟨hp2, m, k⟩ := zLk_18 F xs
    exact ⟨hp2, m, zsw_18 F xs _ h (k _ (ztail xs hp2))⟩
  · obtain ⟨hp2, m, k⟩ := zLk_19 F xs
    exact ⟨hp2, m, zsw_19 F xs _ h (k _ (ztail xs hp2))⟩
  · obtain ⟨hp2, m, k⟩ := zLk_20 F xs
    exact ⟨hp2, m, zsw_20 F xs _ h (k _ (ztail xs hp2))⟩
  · obtain ⟨hp2, m, k⟩ := zLk_21 F xs
    exact ⟨hp2, m, zsw_21 F xs _ h (k _ (ztail xs hp2))⟩
  · obtain ⟨hp2, m, k⟩ := zLk_22 F xs
    exact ⟨hp2, m, zsw_22 F xs _ h (k _ (ztail xs hp2))⟩
  · obtain ⟨hp2, m, k⟩ := zLk_23 F xs
    exact ⟨hp2, m, zsw_23 F xs _ h (k _ (ztail xs hp2))⟩
  · obtain ⟨hp2, m, k⟩ := zLk_24 F xs
    exact ⟨hp2, m, zsw_24 F xs _ h (k _ (ztail xs hp2))⟩
  · obtain ⟨hp2, m, k⟩ := zLk_25 F xs
    exact ⟨hp2, m, zsw_25 F xs _ h (k _ (ztail xs hp2))⟩
  · obtain ⟨hp2, m, k⟩ := zLk_26 F xs
    exact ⟨hp2, m, zsw_26 F xs _ h (k _ (ztail xs hp2))⟩
  · obtain ⟨hp2, m, k⟩ := zLk_27 F xs
    exact ⟨hp2, m, zsw_27 F xs _ h (k _ (ztail xs hp2))⟩
  · obtain ⟨hp2, m, k⟩ := zLk_28 F xs
    exact ⟨hp2, m, zsw_28 F xs _ h (k _ (ztail xs hp2))⟩
  · obtain ⟨hp2, m, k⟩ := zLk_29 F xs
    exact ⟨hp2, m, zsw_29 F xs _ h (k _ (ztail xs hp2))⟩
  · obtain ⟨hp2, m, k⟩ := zLk_30 F xs
    exact ⟨hp2, m, zsw_30 F xs _ h (k _ (ztail xs hp2))⟩
  · exact ⟨hp, hpn F, zsw_31 F xs _ h (ztail xs hp)⟩
theorem zp1 (L : Nat) (hL : L ≤ 6) (xs : Nat → Int32) : ∃ (f1 f : Nat) (hpF : zHp), zlaw f1 f L xs = some (some (.int 1), hpF) ∧ hpF.1 ≤ 2000 := by
  obtain ⟨hp, F⟩ : ∃ hp : zHp, zFr0 hp := ⟨hpC, rfl⟩
  have key : ∃ hpF : zHp, hpF.1 ≤ 2000 ∧ zR (some (L, xs)) 20 4 ret zcL (0, [(0, .ref zSC)], []) zh0 (some (.int 1), hpF) := by
    rcases (show L = 0 ∨ L = 1 ∨ L = 2 ∨ L = 3 ∨ L = 4 ∨ L = 5 ∨ L = 6 by omega) with rfl | rfl | rfl | rfl | rfl | rfl | rfl
    · exact ⟨hp, hpn F, zshort_0 F xs⟩
    · exact ⟨hp, hpn F, zshort_1 F xs⟩
    · exact ⟨hp, hpn F, zshort_2 F xs⟩
    · exact ⟨hp, hpn F, zshort_3 F xs⟩
    · exact ⟨hp, hpn F, zshort_4 F xs⟩
    · exact ⟨hp, hpn F, zshort_5 F xs⟩
    · exact zp1_6 F xs
  obtain ⟨hpF, m, n0, f0, h⟩ := key
  exact ⟨f0, n0, hpF, h f0 n0 (Nat.le_refl _) (Nat.le_refl _), m⟩
