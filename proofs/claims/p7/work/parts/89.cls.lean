/-! The class's rule: the machine decides it. -/
set_option maxRecDepth 4000 in
theorem xg127 : zg zms 127 = some (zm127.2.2.1, zm127.2.2.2.1, zc127) := rfl
set_option maxRecDepth 4000 in
theorem xg50 : zg zms 50 = some (zm50.2.2.1, zm50.2.2.2.1, zc50) := rfl
theorem xr50 : zar 50 = (2, 6) := by decide +kernel
theorem zCan_u {d k : Nat} {as : List Value} {hp : zHp} {r1 r2 : zRe} (h1 : zCan d k as hp r1) (h2 : zCan d k as hp r2) : r1 = r2 := by
  obtain ⟨f1, h1⟩ := h1
  obtain ⟨f2, h2⟩ := h2
  have e1 := h1 (max f1 f2) (Nat.le_max_left _ _)
  have e2 := h2 (max f1 f2) (Nat.le_max_right _ _)
  rw [e1] at e2
  exact Option.some.inj e2
/-- text.bytes is the tape -/
def kB (hp : zHp) : zHp := (hp.1, fun i => if i = 2 then (match hp.2 2 with
  | .inr (k, fs) => .inr (k, fs.set 0 (.ref 1))
  | c => c) else hp.2 i)
section KOP
variable {hp : zHp} {d : Nat}
theorem kB_c (H : yH0 hp) : ∃ fs : List Value, hp.2 2 = .inr (6, fs) ∧ fs.length = 5 ∧ (∃ r, fs[0]? = some (.ref r)) ∧ (kB hp).2 2 = .inr (6, fs.set 0 (.ref 1)) := by
  have k2 := H.2.2 2 (Nat.lt_of_lt_of_le (by decide) H.1)
  obtain ⟨fs, e, l, t⟩ : ∃ fs : List Value, hp.2 2 = .inr (6, fs) ∧ fs.length = 5 ∧ ∀ (j : Nat) (t : Nat × Int × Int), (yty 2).2.2.2.2[j]? = some t → ∃ v, fs[j]? = some v ∧ yft t v := k2
  obtain ⟨v, v1, r, v2, -⟩ := t 0 (2, 1, 3) rfl
  refine ⟨fs, e, l, ⟨r, by rw [v1, v2]⟩, ?_⟩
  unfold kB
  dsimp only
  rw [if_pos rfl, e]
theorem kB_o {i : Nat} (h : i ≠ 2) : (kB hp).2 i = hp.2 i := if_neg h
theorem kB_H (H : yH0 hp) : yH0 (kB hp) := by
  obtain ⟨fs, e, l, -, e2⟩ := kB_c H
  have z : kB hp = (hp.1, zup hp.2 2 (.inr (6, fs.set 0 (.ref 1)))) := by
    refine Prod.ext rfl (funext fun i => ?_)
    by_cases c : i = 2
    · subst c
      show (kB hp).2 2 = zup hp.2 2 (.inr (6, fs.set 0 (.ref 1))) 2
      rw [e2]
      exact zups.symm
    · show (kB hp).2 i = zup hp.2 2 (.inr (6, fs.set 0 (.ref 1))) i
      exact (kB_o c).trans (zupo c).symm
  rw [z]
  refine yset_H H (fun _ => ?_)
  have k2 := H.2.2 2 (Nat.lt_of_lt_of_le (by decide) H.1)
  obtain ⟨fs2, q1, q2, q3⟩ : ∃ fs : List Value, hp.2 2 = .inr (6, fs) ∧ fs.length = (yty 2).2.2.2.2.length ∧ ∀ (j : Nat) (t : Nat × Int × Int), (yty 2).2.2.2.2[j]? = some t → ∃ v, fs[j]? = some v ∧ yft t v := k2
  rw [e] at q1
  have e3 : fs = fs2 := (Prod.mk.inj (Sum.inr.inj q1)).2
  subst e3
  refine ⟨fs.set 0 (.ref 1), rfl, by rw [List.length_set]; exact q2, fun j t ht => ?_⟩
  obtain ⟨v, v1, v2⟩ := q3 j t ht
  by_cases c : j = 0
  · subst c
    have ht : some ((2, 1, 3) : Nat × Int × Int) = some t := ht
    cases ht
    exact ⟨.ref 1, by rw [List.getElem?_set, if_pos rfl, if_pos (by omega)], 1, rfl, by decide, by decide⟩
  · exact ⟨v, by rw [List.getElem?_set, if_neg (fun z => c z.symm)]; exact v1, v2⟩
theorem kB_X (H : yH0 hp) : yTx (kB hp) := by
  obtain ⟨fs, e, l, -, e2⟩ := kB_c H
  exact ⟨_, e2, by rw [List.getElem?_set, if_pos rfl, if_pos (by omega)]⟩
theorem kB_m (H : yH0 hp) (i j : Nat) : (xof (kB hp)).1 i j = (xof hp).1 i j := by
  obtain ⟨fs, e, l, ⟨r, v1⟩, e2⟩ := kB_c H
  unfold xof
  dsimp only
  by_cases c : i = 2
  · subst c
    rw [e, e2]
    dsimp only
    by_cases z : j = 0
    · subst z
      rw [List.getElem?_set, if_pos rfl, if_pos (by omega), v1]
    · rw [List.getElem?_set, if_neg (fun y => z y.symm)]
  · rw [kB_o c]
abbrev kO (m : xS) : xS := xu (xu (xu (xu m 2 1 (if (Int32.ofNat 400) < m.1 0 1 then (Int32.ofNat 400) else m.1 0 1)) 2 2 0) 2 4 0) 0 1 0
/-- openTape -/
theorem kOpen (H : yH0 hp) (hd : 2 ≤ d) : zCan d 127 [.ref 0] hp (none, xW (kB hp) (kO (xof (kB hp)))) := by
  obtain ⟨e, rfl⟩ : ∃ e, d = e + 1 + 1 := ⟨d - 2, by omega⟩
  have HB := kB_H H
  obtain ⟨fs, ef, lf, -, e2⟩ := kB_c H
  have e1 : (xof hp).1 0 1 = (xof (kB hp)).1 0 1 := (kB_m H 0 1).symm
  have l88 : 88 ≤ hp.1 := H.1
  refine zCan_body (nL := 1) (rt := none) (cd := zc127) xg127 ⟨Nat.le_of_ble_eq_true rfl, by decide⟩ (Nat.le_refl _) ?_
  refine q_lr (k := 1) (i := 0) (x := 0) (q := (.aload_n 0, 1, 0, 0, .null)) rfl (fun _ => rfl) rfl ?_
  refine h_gr H (ix := 0) (c := 2) (pc := 1) rfl (by decide) (by decide) ?_
  refine q_lr (k := 1) (i := 0) (x := 0) (q := (.aload_n 0, 1, 0, 0, .null)) rfl (fun _ => rfl) rfl ?_
  refine h_gr H (ix := 0) (c := 1) (pc := 5) rfl (by decide) (by decide) ?_
  refine q_lr (k := 1) (i := 0) (x := 0) (q := (.aload_n 0, 1, 0, 0, .null)) rfl (fun _ => rfl) rfl ?_
  refine h_gi H (ix := 0) (pc := 9) rfl (by decide) (by decide) ?_
  have call : zCan (e + 1) 50 [.ref 2, .ref 1, .int ((xof hp).1 0 1)] hp (none, xW (kB hp) (xu (xu (xu (xof (kB hp)) 2 1 (if (Int32.ofNat 400) < (xof (kB hp)).1 0 1 then (Int32.ofNat 400) else (xof (kB hp)).1 0 1)) 2 2 0) 2 4 0)) := by
    refine zCan_body (nL := 3) (rt := none) (cd := zc50) xg50 ⟨Nat.le_of_ble_eq_true rfl, by decide⟩ (Nat.le_refl _) ?_
    refine q_lr (k := 1) (i := 0) (x := 2) (q := (.aload_n 0, 1, 0, 0, .null)) rfl (fun _ => rfl) rfl ?_
    refine q_lr (k := 1) (i := 1) (x := 1) (q := (.aload_n 1, 1, 0, 0, .null)) rfl (fun _ => rfl) rfl ?_
    refine r_put (pc := 2) (ix := 2) rfl ⟨by omega, by decide, rfl⟩ ef (by omega) ?_
    have z : ((hp.1, zup hp.2 2 (.inr (6, fs.set 0 (.ref 1)))) : zHp) = xW (kB hp) (xof (kB hp)) := by
      rw [xW_of]
      refine Prod.ext rfl (funext fun i => ?_)
      by_cases c : i = 2
      · subst c
        show zup hp.2 2 (.inr (6, fs.set 0 (.ref 1))) 2 = (kB hp).2 2
        rw [e2]
        exact zups
      · show zup hp.2 2 (.inr (6, fs.set 0 (.ref 1))) i = (kB hp).2 i
        exact (zupo c).trans (kB_o c).symm
    rw [z]
    refine q_lr (k := 1) (i := 0) (x := 2) (q := (.aload_n 0, 1, 0, 0, .null)) rfl (fun _ => rfl) rfl ?_
    refine q_li (k := 1) (i := 2) (x := (xof hp).1 0 1) (q := (.iload_n 2, 1, 0, 0, .null)) rfl (fun _ => rfl) rfl ?_
    refine q_lr (k := 1) (i := 1) (x := 1) (q := (.aload_n 1, 1, 0, 0, .null)) rfl (fun _ => rfl) rfl ?_
    refine q_len (n := 400) (k := 0) HB (pc := 8) rfl (by decide) ?_
    refine r_s (fr' := (12, lv_args 0 [.ref 2, .ref 1, .int ((xof hp).1 0 1)], [.int (if (Int32.ofNat 400) < (xof hp).1 0 1 then (Int32.ofNat 400) else (xof hp).1 0 1), .ref 2])) (hp' := xW (kB hp) (xof (kB hp))) (q := (.invokestatic 15, 3, 0, 3, .null)) rfl (fun _ => rfl) (Nat.le_refl _) ?_
    rw [e1]
    refine r_pi HB (pc := 12) rfl (by decide) rfl rfl ?_
    refine q_lr (k := 1) (i := 0) (x := 2) (q := (.aload_n 0, 1, 0, 0, .null)) rfl (fun _ => rfl) rfl ?_
    refine r_s (fr' := (17, lv_args 0 [.ref 2, .ref 1, .int ((xof (kB hp)).1 0 1)], [.int 0, .ref 2])) (hp' := xW (kB hp) _) (q := (.iconst 0, 1, 0, 0, .null)) rfl (fun _ => rfl) (Nat.le_refl _) ?_
    refine r_pi HB (pc := 17) rfl (by decide) rfl rfl ?_
    refine q_lr (k := 1) (i := 0) (x := 2) (q := (.aload_n 0, 1, 0, 0, .null)) rfl (fun _ => rfl) rfl ?_
    refine r_s (fr' := (22, lv_args 0 [.ref 2, .ref 1, .int ((xof (kB hp)).1 0 1)], [.int 0, .ref 2])) (hp' := xW (kB hp) _) (q := (.iconst 0, 1, 0, 0, .null)) rfl (fun _ => rfl) (Nat.le_refl _) ?_
    refine r_pi HB (pc := 22) rfl (by decide) rfl rfl ?_
    exact r_ret (q := (.return_, 1, 0, 0, .null)) rfl rfl (fun _ => rfl)
  refine r_call (ix := 2) (as := [.ref 1, .int ((xof hp).1 0 1)]) (rest := []) (rv := none) (pc := 12) rfl xr50 rfl rfl rfl (h_kd H (by decide)) (Nat.le_of_ble_eq_true rfl) call (Nat.le_refl _) ?_
  refine q_lr (k := 1) (i := 0) (x := 0) (q := (.aload_n 0, 1, 0, 0, .null)) rfl (fun _ => rfl) rfl ?_
  refine r_s (fr' := (17, lv_args 0 [.ref 0], [.int 0, .ref 0])) (hp' := xW (kB hp) _) (q := (.iconst 0, 1, 0, 0, .null)) rfl (fun _ => rfl) (Nat.le_refl _) ?_
  refine r_pi HB (pc := 17) rfl (by decide) rfl rfl ?_
  exact r_ret (q := (.return_, 1, 0, 0, .null)) rfl rfl (fun _ => rfl)
end KOP
