/-! p1: each kind of call on the fresh heap: both sides answer alike. -/
def zKP (hp : zHp) (kC kM : Nat) (as : List Value) : Prop := ∃ (v : Int32) (hp1 hp2 : zHp), zCan 20 kC (.ref 0 :: as) hp (some (.int v), hp1) ∧ hp.1 ≤ hp1.1 ∧ zKd 70 hp1 = some 11 ∧ zCan 20 kM (.ref 70 :: as) hp1 (some (.int v), hp2) ∧ hp1.1 ≤ hp2.1 ∧ hp2.1 ≤ 2000
def zclo (kC kM : Nat) (as : List Value) (v : Int32) : Bool := match zcall zts zms 10000 20 kC (.ref 0 :: as) hpC with
  | some (some (.int x), hp1) => decide (x = v) && (decide (hpC.1 ≤ hp1.1) && (decide (zKd 70 hp1 = some 11) && (match zcall zts zms 10000 20 kM (.ref 70 :: as) hp1 with
    | some (some (.int y), hp2) => decide (y = v) && (decide (hp1.1 ≤ hp2.1) && decide (hp2.1 ≤ 2000))
    | _ => false)))
  | _ => false
theorem zclo_ok {kC kM : Nat} {as : List Value} {v : Int32} (h : zclo kC kM as v = true) : zKP hpC kC kM as := by
  unfold zclo at h
  split at h
  · next x hp1 h1 =>
    simp only [Bool.and_eq_true, decide_eq_true_eq] at h
    obtain ⟨e1, e2, e3, e4⟩ := h
    split at e4
    · next y hp2 h2 =>
      simp only [Bool.and_eq_true, decide_eq_true_eq] at e4
      obtain ⟨f1, f2, f3⟩ := e4
      subst e1
      subst f1
      exact ⟨_, hp1, hp2, zCan_of h1, e2, e3, zCan_of h2, f2, f3⟩
    · cases e4
  · cases h
theorem zKP_at {hp : zHp} (F : zFr0 hp) {kC kM : Nat} {as : List Value} (h : zKP hpC kC kM as) : zKP hp kC kM as := by rw [show hp = hpC from F]; exact h
theorem zK_4 {hp : zHp} (F : zFr0 hp) (a0 a1 : Int32) : zKP hp 128 217 [.int a0, .int a1] := ⟨-1, hp, hp, zc_128_2 F 17 a0 a1, Nat.le_refl _, hk70 F, zc_217_4 F 18 a0 a1, Nat.le_refl _, hpn F⟩
theorem zK_5 {hp : zHp} (F : zFr0 hp) (a0 a1 : Int32) : zKP hp 129 218 [.int a0, .int a1] := ⟨-2, hp, hp, zc_129_7 F 17 a0 a1, Nat.le_refl _, hk70 F, zc_218_9 F 18 a0 a1, Nat.le_refl _, hpn F⟩
theorem zK_6 {hp : zHp} (F : zFr0 hp) (a0 a1 a2 : Int32) : zKP hp 130 219 [.int a0, .int a1, .int a2] := ⟨-1, hp, hp, zc_130_13 F 16 a0 a1 a2, Nat.le_refl _, hk70 F, zc_219_15 F 18 a0 a1 a2, Nat.le_refl _, hpn F⟩
theorem zK_7 {hp : zHp} (F : zFr0 hp) (a0 a1 : Int32) : zKP hp 131 226 [.int a0, .int a1] := ⟨-1, hp, hp, zc_131_16 F 17 a0 a1, Nat.le_refl _, hk70 F, zc_226_17 F 18 a0 a1, Nat.le_refl _, hpn F⟩
theorem zK_8 {hp : zHp} (F : zFr0 hp) (a0 : Int32) : zKP hp 132 227 [.int a0] := ⟨-1, hp, hp, zc_132_18 F 17 a0, Nat.le_refl _, hk70 F, zc_227_19 F 18 a0, Nat.le_refl _, hpn F⟩
theorem zK_9 {hp : zHp} (F : zFr0 hp) (a0 : Int32) : zKP hp 133 228 [.int a0] := ⟨-1, hp, hp, zc_133_20 F 17 a0, Nat.le_refl _, hk70 F, zc_228_21 F 18 a0, Nat.le_refl _, hpn F⟩
theorem zK_10 {hp : zHp} (F : zFr0 hp) (a0 a1 : Int32) : zKP hp 134 230 [.int a0, .int a1] := ⟨0, hp, hp, zc_134_22 F 16 a0 a1, Nat.le_refl _, hk70 F, zc_230_23 F 18 a0 a1, Nat.le_refl _, hpn F⟩
theorem zK_12 {hp : zHp} (F : zFr0 hp) (a0 a1 : Int32) : zKP hp 136 232 [.int a0, .int a1] := ⟨-1, hp, hp, zc_136_24 F 17 a0 a1, Nat.le_refl _, hk70 F, zc_232_25 F 18 a0 a1, Nat.le_refl _, hpn F⟩
theorem zK_15 {hp : zHp} (F : zFr0 hp) (a0 a1 : Int32) : zKP hp 139 248 [.int a0, .int a1] := ⟨-1, hp, hp, zc_139_27 F 17 a0 a1, Nat.le_refl _, hk70 F, zc_248_29 F 18 a0 a1, Nat.le_refl _, hpn F⟩
theorem zK_16 {hp : zHp} (F : zFr0 hp) (a0 a1 a2 a3 : Int32) : zKP hp 141 252 [.int a0, .int a1, .int a2, .int a3] := ⟨-3, hp, hp, zc_141_30 F 17 a0 a1 a2 a3, Nat.le_refl _, hk70 F, zc_252_31 F 18 a0 a1 a2 a3, Nat.le_refl _, hpn F⟩
theorem zK_17 {hp : zHp} (F : zFr0 hp) (a0 : Int32) : zKP hp 142 257 [.int a0] := ⟨-3, hp, hp, zc_142_32 F 17 a0, Nat.le_refl _, hk70 F, zc_257_33 F 18 a0, Nat.le_refl _, hpn F⟩
theorem zK_18 {hp : zHp} (F : zFr0 hp) (a0 : Int32) : zKP hp 143 258 [.int a0] := ⟨-1, hp, hp, zc_143_34 F 17 a0, Nat.le_refl _, hk70 F, zc_258_35 F 18 a0, Nat.le_refl _, hpn F⟩
theorem zK_19 {hp : zHp} (F : zFr0 hp) (a0 a1 : Int32) : zKP hp 144 261 [.int a0, .int a1] := ⟨-1, hp, hp, zc_144_36 F 17 a0 a1, Nat.le_refl _, hk70 F, zc_261_37 F 18 a0 a1, Nat.le_refl _, hpn F⟩
theorem zK_20 {hp : zHp} (F : zFr0 hp) (a0 : Int32) : zKP hp 145 262 [.int a0] := ⟨-1, hp, hp, zc_145_38 F 17 a0, Nat.le_refl _, hk70 F, zc_262_39 F 18 a0, Nat.le_refl _, hpn F⟩
theorem zK_21 {hp : zHp} (F : zFr0 hp) (a0 : Int32) : zKP hp 146 264 [.int a0] := ⟨-1, hp, hp, zc_146_40 F 17 a0, Nat.le_refl _, hk70 F, zc_264_41 F 18 a0, Nat.le_refl _, hpn F⟩
theorem zK_22 {hp : zHp} (F : zFr0 hp) (a0 : Int32) : zKP hp 147 265 [.int a0] := ⟨-1000, hp, hp, zc_147_42 F 17 a0, Nat.le_refl _, hk70 F, zc_265_43 F 18 a0, Nat.le_refl _, hpn F⟩
theorem zK_23 {hp : zHp} (F : zFr0 hp) (a0 a1 : Int32) : zKP hp 148 267 [.int a0, .int a1] := ⟨-1, hp, hp, zc_148_44 F 17 a0 a1, Nat.le_refl _, hk70 F, zc_267_45 F 18 a0 a1, Nat.le_refl _, hpn F⟩
theorem zK_24 {hp : zHp} (F : zFr0 hp) (a0 : Int32) : zKP hp 149 269 [.int a0] := ⟨-1, hp, hp, zc_149_46 F 17 a0, Nat.le_refl _, hk70 F, zc_269_47 F 18 a0, Nat.le_refl _, hpn F⟩
theorem zK_25 {hp : zHp} (F : zFr0 hp) (a0 : Int32) : zKP hp 150 272 [.int a0] := ⟨-1, hp, hp, zc_150_48 F 17 a0, Nat.le_refl _, hk70 F, zc_272_49 F 18 a0, Nat.le_refl _, hpn F⟩
theorem zK_27 {hp : zHp} (F : zFr0 hp) (a0 a1 a2 : Int32) : zKP hp 153 276 [.int a0, .int a1, .int a2] := ⟨-1, hp, hp, zc_153_50 F 17 a0 a1 a2, Nat.le_refl _, hk70 F, zc_276_51 F 18 a0 a1 a2, Nat.le_refl _, hpn F⟩
theorem zc_seedC {hp : zHp} (F : zFr0 hp) (d : Nat) (a0 : Int32) : zCan (d + 1) 152 [.ref 0, .int a0] hp (some (.int (if a0 < 0 then -1 else 0)), if a0 < 0 then hp else (hp.1, zup hp.2 43 (.inr (1, [.int a0])))) := by
  by_cases hn : a0 < 0
  · rw [if_pos hn, if_pos hn]
    refine zCan_body (d := d) hgm152 ⟨Nat.le_of_ble_eq_true rfl, by decide⟩ (Nat.le_refl _) ?_
    show zR _ _ _ _ _ (0, [(0, .ref 0), (1, .int a0)], []) hp _
    refine r_s (fr' := (1, [(0, .ref 0), (1, .int a0)], [.int a0])) (hp' := hp) zf152_0 (fun _ => rfl) (Nat.le_refl _) ?_
    refine r_if zf152_1 (fun q => ?_) (fun q => ?_)
    · exact zno (by simp only [zcmp, decide_eq_true_eq] at q; exact absurd hn (Int32.not_lt.mpr q))
    · show zR _ _ _ _ _ (4, [(0, .ref 0), (1, .int a0)], []) hp _
      refine r_s (fr' := (5, [(0, .ref 0), (1, .int a0)], [.int (-1)])) (hp' := hp) zf152_4 (fun _ => rfl) (Nat.le_refl _) ?_
      exact r_ret zf152_5 rfl (fun _ => rfl)
  · rw [if_neg hn, if_neg hn]
    refine zCan_body (d := d) hgm152 ⟨Nat.le_of_ble_eq_true rfl, by decide⟩ (Nat.le_refl _) ?_
    show zR _ _ _ _ _ (0, [(0, .ref 0), (1, .int a0)], []) hp _
    refine r_s (fr' := (1, [(0, .ref 0), (1, .int a0)], [.int a0])) (hp' := hp) zf152_0 (fun _ => rfl) (Nat.le_refl _) ?_
    refine r_if zf152_1 (fun q => ?_) (fun q => ?_)
    · show zR _ _ _ _ _ (6, [(0, .ref 0), (1, .int a0)], []) hp _
      refine r_s (fr' := (7, [(0, .ref 0), (1, .int a0)], [.ref 0])) (hp' := hp) zf152_6 (fun _ => rfl) (Nat.le_refl _) ?_
      refine r_get zf152_7 (by decide) ⟨hl0 F, by decide⟩ (hc0 F) (v := .ref 43) rfl ?_
      refine r_get zf152_10 (by decide) ⟨hl43 F, by decide⟩ (hc43 F) (v := .int 0) rfl ?_
      refine r_s (fr' := (14, [(2, .int 0), (0, .ref 0), (1, .int a0)], [])) (hp' := hp) zf152_13 (fun _ => rfl) (Nat.le_refl _) ?_
      refine r_s (fr' := (15, [(2, .int 0), (0, .ref 0), (1, .int a0)], [.ref 0])) (hp' := hp) zf152_14 (fun _ => rfl) (Nat.le_refl _) ?_
      refine r_get zf152_15 (by decide) ⟨hl0 F, by decide⟩ (hc0 F) (v := .ref 43) rfl ?_
      refine r_s (fr' := (19, [(2, .int 0), (0, .ref 0), (1, .int a0)], [.int a0, .ref 43])) (hp' := hp) zf152_18 (fun _ => rfl) (Nat.le_refl _) ?_
      refine r_put zf152_19 ⟨hl43 F, by decide, rfl⟩ (hc43 F) (by decide) ?_
      refine r_s (fr' := (23, [(2, .int 0), (0, .ref 0), (1, .int a0)], [.int 0])) (hp' := (hp.1, zup hp.2 43 (.inr (1, [.int a0])))) zf152_22 (fun _ => rfl) (Nat.le_refl _) ?_
      exact r_ret zf152_23 rfl (fun _ => rfl)
    · exact zno (by simp only [zcmp, decide_eq_false_iff_not] at q; exact q (Int32.not_lt.mp hn))
theorem zc_seedM (d : Nat) (a0 : Int32) (hp : zHp) (hl : 70 < hp.1) (hc : hp.2 70 = .inr (11, [.ref 71, .int 0, .int 0, .ref 72, .ref 73, .ref 74, .ref 75, .ref 76, .int 0, .int 0, .int 0, .int 0, .int 0, .int 0, .int 0, .ref 77, .int 0, .int 0, .int 0, .ref 78, .int 0, .ref 79, .ref 80, .int 0, .ref 81, .int 0, .int 0, .int 0, .ref 82, .ref 83, .int 0, .ref 84, .int 0, .int 0, .int 0, .long 0, .ref 85, .ref 86, .ref 87])) : ∃ hp2 : zHp, hp2.1 = hp.1 ∧ zCan (d + 1) 273 [.ref 70, .int a0] hp (some (.int (if a0 < 0 then -1 else 0)), hp2) := by
  by_cases hn : a0 < 0
  · refine ⟨hp, rfl, ?_⟩
    rw [if_pos hn]
    refine zCan_body (d := d) hgm273 ⟨Nat.le_of_ble_eq_true rfl, by decide⟩ (Nat.le_refl _) ?_
    show zR _ _ _ _ _ (0, [(0, .ref 70), (1, .int a0)], []) hp _
    refine r_s (fr' := (1, [(0, .ref 70), (1, .int a0)], [.int a0])) (hp' := hp) zf273_0 (fun _ => rfl) (Nat.le_refl _) ?_
    refine r_if zf273_1 (fun q => ?_) (fun q => ?_)
    · exact zno (by simp only [zcmp, decide_eq_true_eq] at q; exact absurd hn (Int32.not_lt.mpr q))
    · show zR _ _ _ _ _ (4, [(0, .ref 70), (1, .int a0)], []) hp _
      refine r_s (fr' := (5, [(0, .ref 70), (1, .int a0)], [.int (-1)])) (hp' := hp) zf273_4 (fun _ => rfl) (Nat.le_refl _) ?_
      exact r_ret zf273_5 rfl (fun _ => rfl)
  · refine ⟨(hp.1, zup hp.2 70 (.inr (11, [.ref 71, .int 0, .int 0, .ref 72, .ref 73, .ref 74, .ref 75, .ref 76, .int 0, .int 0, .int 0, .int 0, .int 0, .int 0, .int 0, .ref 77, .int 0, .int 0, .int 0, .ref 78, .int 0, .ref 79, .ref 80, .int a0, .ref 81, .int 0, .int 0, .int 0, .ref 82, .ref 83, .int 0, .ref 84, .int 0, .int 0, .int 0, .long 0, .ref 85, .ref 86, .ref 87]))), rfl, ?_⟩
    rw [if_neg hn]
    refine zCan_body (d := d) hgm273 ⟨Nat.le_of_ble_eq_true rfl, by decide⟩ (Nat.le_refl _) ?_
    show zR _ _ _ _ _ (0, [(0, .ref 70), (1, .int a0)], []) hp _
    refine r_s (fr' := (1, [(0, .ref 70), (1, .int a0)], [.int a0])) (hp' := hp) zf273_0 (fun _ => rfl) (Nat.le_refl _) ?_
    refine r_if zf273_1 (fun q => ?_) (fun q => ?_)
    · show zR _ _ _ _ _ (6, [(0, .ref 70), (1, .int a0)], []) hp _
      refine r_s (fr' := (7, [(0, .ref 70), (1, .int a0)], [.ref 70])) (hp' := hp) zf273_6 (fun _ => rfl) (Nat.le_refl _) ?_
      refine r_get zf273_7 (by decide) ⟨hl, by decide⟩ hc (v := .int 0) rfl ?_
      refine r_s (fr' := (11, [(2, .int 0), (0, .ref 70), (1, .int a0)], [])) (hp' := hp) zf273_10 (fun _ => rfl) (Nat.le_refl _) ?_
      refine r_s (fr' := (12, [(2, .int 0), (0, .ref 70), (1, .int a0)], [.ref 70])) (hp' := hp) zf273_11 (fun _ => rfl) (Nat.le_refl _) ?_
      refine r_s (fr' := (13, [(2, .int 0), (0, .ref 70), (1, .int a0)], [.int a0, .ref 70])) (hp' := hp) zf273_12 (fun _ => rfl) (Nat.le_refl _) ?_
      refine r_put zf273_13 ⟨hl, by decide, rfl⟩ hc (by decide) ?_
      refine r_s (fr' := (17, [(2, .int 0), (0, .ref 70), (1, .int a0)], [.int 0])) (hp' := (hp.1, zup hp.2 70 (.inr (11, [.ref 71, .int 0, .int 0, .ref 72, .ref 73, .ref 74, .ref 75, .ref 76, .int 0, .int 0, .int 0, .int 0, .int 0, .int 0, .int 0, .ref 77, .int 0, .int 0, .int 0, .ref 78, .int 0, .ref 79, .ref 80, .int a0, .ref 81, .int 0, .int 0, .int 0, .ref 82, .ref 83, .int 0, .ref 84, .int 0, .int 0, .int 0, .long 0, .ref 85, .ref 86, .ref 87])))) zf273_16 (fun _ => rfl) (Nat.le_refl _) ?_
      exact r_ret zf273_17 rfl (fun _ => rfl)
    · exact zno (by simp only [zcmp, decide_eq_false_iff_not] at q; exact q (Int32.not_lt.mp hn))
theorem zK_26 {hp : zHp} (F : zFr0 hp) (a0 : Int32) : zKP hp 152 273 [.int a0] := by
  have h1 := zc_seedC F 19 a0
  have e1 : (if a0 < 0 then hp else (hp.1, zup hp.2 43 (.inr (1, [.int a0])))).1 = hp.1 := by split <;> rfl
  have e2 : (if a0 < 0 then hp else (hp.1, zup hp.2 43 (.inr (1, [.int a0])))).2 70 = hp.2 70 := by
    split
    · rfl
    · show zup hp.2 43 (.inr (1, [.int a0])) 70 = hp.2 70
      exact zup_ne (by decide)
  generalize (if a0 < 0 then hp else (hp.1, zup hp.2 43 (.inr (1, [.int a0])))) = hp1 at h1 e1 e2
  obtain ⟨hp2, m2, h2⟩ := zc_seedM 19 a0 hp1 (by rw [e1]; exact hl70 F) (by rw [e2]; exact hc70 F)
  refine ⟨_, hp1, hp2, h1, by rw [e1]; exact Nat.le_refl _, ?_, h2, by rw [m2]; exact Nat.le_refl _, by rw [m2, e1]; exact hpn F⟩
  unfold zKd
  rw [if_pos (by decide), if_pos (by rw [e1]; exact hl70 F), e2, hc70 F]
