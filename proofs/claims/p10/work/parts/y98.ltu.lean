/-! A turn of the law, case by case. -/
section LTU
variable {L : Nat} {xs : Nat → Int32} {hp hp1 hp2 : zHp} {lv : List (Nat × Value)} {i x1 x2 : Int32} {I : Nat} {r : zRe} {st : List Value}
theorem l_arg {pc : Nat} {k : Nat} (h1 : zg zcL pc = some (.aload_n 0, 1, 0, 0, .null)) (h2 : zg zcL (pc + 1) = some (.iload_n 3, 1, 0, 0, .null)) (h3 : zg zcL (pc + 2) = some (.iconst (k : Int), 1, 0, 0, .null)) (h4 : zg zcL (pc + 3) = some (.iadd, 1, 0, 0, .null)) (h5 : zg zcL (pc + 4) = some (.iaload, 1, 0, 0, .null)) (l0 : zld lv 0 = some (.ref 1000)) (l3 : zld lv 3 = some (.int i)) (hi : i.toInt = (I : Int)) (hk : I + k < L) (k5 : k ≤ 5) (hL : L ≤ 3072) (K : zR (some (L, xs)) 20 4 ret zcL (pc + 5, lv, .int (xs (I + k)) :: st) hp r) : zR (some (L, xs)) 20 4 ret zcL (pc, lv, st) hp r := by
  refine q_lr (k := 1) (i := 0) (x := 1000) (q := (.aload_n 0, 1, 0, 0, .null)) h1 (fun _ => rfl) l0 ?_
  refine q_li (k := 1) (i := 3) (q := (.iload_n 3, 1, 0, 0, .null)) h2 (fun _ => rfl) l3 ?_
  refine r_s (fr' := (pc + 1 + 1 + 1, lv, .int (Int32.ofInt (k : Int)) :: .int i :: .ref 1000 :: st)) (hp' := hp) (q := (.iconst (k : Int), 1, 0, 0, .null)) h3 (fun _ => rfl) (Nat.le_refl _) ?_
  refine r_s (fr' := (pc + 1 + 1 + 1 + 1, lv, .int (i + Int32.ofInt (k : Int)) :: .ref 1000 :: st)) (hp' := hp) (q := (.iadd, 1, 0, 0, .null)) h4 (fun _ => rfl) (Nat.le_refl _) ?_
  have ek : (Int32.ofInt (k : Int)).toInt = (k : Int) := by
    have : k = 0 ∨ k = 1 ∨ k = 2 ∨ k = 3 ∨ k = 4 ∨ k = 5 := by omega
    rcases this with rfl | rfl | rfl | rfl | rfl | rfl <;> rfl
  have e : (i + Int32.ofInt (k : Int)).toInt = (I : Int) + (k : Int) := (xa1 (by rw [ek]; omega) (by rw [ek]; omega)).trans (by rw [ek, hi])
  have en : (i + Int32.ofInt (k : Int)).toNatClampNeg = I + k := by
    show (i + Int32.ofInt (k : Int)).toInt.toNat = I + k
    omega
  refine q_sil (i := 1000) (n := L) (f := xs) h5 (by decide) rfl (xib_t (by omega) (by omega)) ?_
  rw [en]
  exact K
set_option maxRecDepth 20000 in
theorem lt0 (l0 : zld lv 0 = some (.ref 1000)) (l1 : zld lv 1 = some (.ref 0)) (l2 : zld lv 2 = some (.ref 70)) (l3 : zld lv 3 = some (.int i)) (hi : i.toInt = (I : Int)) (h6 : I + 6 ≤ L) (hL : L ≤ 3072) (k1 : zKd 0 hp = some 10) (k2 : zKd 70 hp1 = some 11) (z1 : zCan 20 122 [.ref 0, .int (xs (I + 1)), .int (xs (I + 2)), .int (xs (I + 3)), .int (xs (I + 4)), .int (xs (I + 5))] hp (some (.int x1), hp1)) (n1 : hp.1 ≤ hp1.1) (z2 : zCan 20 161 [.ref 70, .int (xs (I + 1)), .int (xs (I + 2)), .int (xs (I + 3)), .int (xs (I + 4)), .int (xs (I + 5))] hp1 (some (.int x2), hp2)) (n2 : hp1.1 ≤ hp2.1) (K : zR (some (L, xs)) 20 4 ret zcL (1041, lv, []) hp2 r) : zR (some (L, xs)) 20 4 ret zcL (172, lv, []) hp r := by
  refine q_lr (k := 1) (i := 1) (q := (.aload_n 1, 1, 0, 0, .null)) rfl (fun _ => rfl) l1 ?_
  refine l_arg (pc := 173) (k := 1) rfl rfl rfl rfl rfl l0 l3 hi (by omega) (by decide) hL ?_
  refine l_arg (pc := 178) (k := 2) rfl rfl rfl rfl rfl l0 l3 hi (by omega) (by decide) hL ?_
  refine l_arg (pc := 183) (k := 3) rfl rfl rfl rfl rfl l0 l3 hi (by omega) (by decide) hL ?_
  refine l_arg (pc := 188) (k := 4) rfl rfl rfl rfl rfl l0 l3 hi (by omega) (by decide) hL ?_
  refine l_arg (pc := 193) (k := 5) rfl rfl rfl rfl rfl l0 l3 hi (by omega) (by decide) hL ?_
  refine r_call (ix := 0) (as := [.int (xs (I + 1)), .int (xs (I + 2)), .int (xs (I + 3)), .int (xs (I + 4)), .int (xs (I + 5))]) (rest := []) (rv := some (.int x1)) (hp' := hp1) (pc := 198) rfl (show zar 122 = (5, 10) by decide +kernel) rfl rfl rfl k1 (Nat.le_of_ble_eq_true rfl) z1 n1 ?_
  refine r_s (fr' := (202, lv, [])) (hp' := hp1) (q := (.pop, 1, 0, 0, .null)) rfl (fun _ => rfl) (Nat.le_refl _) ?_
  refine q_lr (k := 1) (i := 2) (q := (.aload_n 2, 1, 0, 0, .null)) rfl (fun _ => rfl) l2 ?_
  refine l_arg (pc := 203) (k := 1) rfl rfl rfl rfl rfl l0 l3 hi (by omega) (by decide) hL ?_
  refine l_arg (pc := 208) (k := 2) rfl rfl rfl rfl rfl l0 l3 hi (by omega) (by decide) hL ?_
  refine l_arg (pc := 213) (k := 3) rfl rfl rfl rfl rfl l0 l3 hi (by omega) (by decide) hL ?_
  refine l_arg (pc := 218) (k := 4) rfl rfl rfl rfl rfl l0 l3 hi (by omega) (by decide) hL ?_
  refine l_arg (pc := 223) (k := 5) rfl rfl rfl rfl rfl l0 l3 hi (by omega) (by decide) hL ?_
  refine r_call (ix := 70) (as := [.int (xs (I + 1)), .int (xs (I + 2)), .int (xs (I + 3)), .int (xs (I + 4)), .int (xs (I + 5))]) (rest := []) (rv := some (.int x2)) (hp' := hp2) (pc := 228) rfl (show zar 161 = (5, 11) by decide +kernel) rfl rfl rfl k2 (Nat.le_of_ble_eq_true rfl) z2 n2 ?_
  refine r_s (fr' := (232, lv, [])) (hp' := hp2) (q := (.pop, 1, 0, 0, .null)) rfl (fun _ => rfl) (Nat.le_refl _) ?_
  exact r_s (fr' := (1041, lv, [])) (hp' := hp2) (q := (.goto 809, 3, 1041, 0, .null)) rfl (fun _ => rfl) (Nat.le_refl _) K
set_option maxRecDepth 20000 in
theorem lt1 (l0 : zld lv 0 = some (.ref 1000)) (l1 : zld lv 1 = some (.ref 0)) (l2 : zld lv 2 = some (.ref 70)) (l3 : zld lv 3 = some (.int i)) (hi : i.toInt = (I : Int)) (h6 : I + 6 ≤ L) (hL : L ≤ 3072) (k1 : zKd 0 hp = some 10) (k2 : zKd 70 hp1 = some 11) (z1 : zCan 20 124 [.ref 0, .int (xs (I + 1))] hp (some (.int x1), hp1)) (n1 : hp.1 ≤ hp1.1) (z2 : zCan 20 162 [.ref 70, .int (xs (I + 1))] hp1 (some (.int x2), hp2)) (n2 : hp1.1 ≤ hp2.1) (K : zR (some (L, xs)) 20 4 ret zcL (1041, lv, []) hp2 r) : zR (some (L, xs)) 20 4 ret zcL (235, lv, []) hp r := by
  refine q_lr (k := 1) (i := 1) (q := (.aload_n 1, 1, 0, 0, .null)) rfl (fun _ => rfl) l1 ?_
  refine l_arg (pc := 236) (k := 1) rfl rfl rfl rfl rfl l0 l3 hi (by omega) (by decide) hL ?_
  refine r_call (ix := 0) (as := [.int (xs (I + 1))]) (rest := []) (rv := some (.int x1)) (hp' := hp1) (pc := 241) rfl (show zar 124 = (1, 10) by decide +kernel) rfl rfl rfl k1 (Nat.le_of_ble_eq_true rfl) z1 n1 ?_
  refine r_s (fr' := (245, lv, [])) (hp' := hp1) (q := (.pop, 1, 0, 0, .null)) rfl (fun _ => rfl) (Nat.le_refl _) ?_
  refine q_lr (k := 1) (i := 2) (q := (.aload_n 2, 1, 0, 0, .null)) rfl (fun _ => rfl) l2 ?_
  refine l_arg (pc := 246) (k := 1) rfl rfl rfl rfl rfl l0 l3 hi (by omega) (by decide) hL ?_
  refine r_call (ix := 70) (as := [.int (xs (I + 1))]) (rest := []) (rv := some (.int x2)) (hp' := hp2) (pc := 251) rfl (show zar 162 = (1, 11) by decide +kernel) rfl rfl rfl k2 (Nat.le_of_ble_eq_true rfl) z2 n2 ?_
  refine r_s (fr' := (255, lv, [])) (hp' := hp2) (q := (.pop, 1, 0, 0, .null)) rfl (fun _ => rfl) (Nat.le_refl _) ?_
  exact r_s (fr' := (1041, lv, [])) (hp' := hp2) (q := (.goto 786, 3, 1041, 0, .null)) rfl (fun _ => rfl) (Nat.le_refl _) K
set_option maxRecDepth 20000 in
theorem lt2 (l0 : zld lv 0 = some (.ref 1000)) (l1 : zld lv 1 = some (.ref 0)) (l2 : zld lv 2 = some (.ref 70)) (l3 : zld lv 3 = some (.int i)) (hi : i.toInt = (I : Int)) (h6 : I + 6 ≤ L) (hL : L ≤ 3072) (k1 : zKd 0 hp = some 10) (k2 : zKd 70 hp1 = some 11) (z1 : zCan 20 125 [.ref 0] hp (some (.int x1), hp1)) (n1 : hp.1 ≤ hp1.1) (z2 : zCan 20 198 [.ref 70] hp1 (some (.int x2), hp2)) (n2 : hp1.1 ≤ hp2.1) (K : zR (some (L, xs)) 20 4 ret zcL (1041, lv, []) hp2 r) : zR (some (L, xs)) 20 4 ret zcL (258, lv, []) hp r := by
  refine q_lr (k := 1) (i := 1) (q := (.aload_n 1, 1, 0, 0, .null)) rfl (fun _ => rfl) l1 ?_
  refine r_call (ix := 0) (as := []) (rest := []) (rv := some (.int x1)) (hp' := hp1) (pc := 259) rfl (show zar 125 = (0, 10) by decide +kernel) rfl rfl rfl k1 (Nat.le_of_ble_eq_true rfl) z1 n1 ?_
  refine r_s (fr' := (263, lv, [])) (hp' := hp1) (q := (.pop, 1, 0, 0, .null)) rfl (fun _ => rfl) (Nat.le_refl _) ?_
  refine q_lr (k := 1) (i := 2) (q := (.aload_n 2, 1, 0, 0, .null)) rfl (fun _ => rfl) l2 ?_
  refine r_call (ix := 70) (as := []) (rest := []) (rv := some (.int x2)) (hp' := hp2) (pc := 264) rfl (show zar 198 = (0, 11) by decide +kernel) rfl rfl rfl k2 (Nat.le_of_ble_eq_true rfl) z2 n2 ?_
  refine r_s (fr' := (268, lv, [])) (hp' := hp2) (q := (.pop, 1, 0, 0, .null)) rfl (fun _ => rfl) (Nat.le_refl _) ?_
  exact r_s (fr' := (1041, lv, [])) (hp' := hp2) (q := (.goto 773, 3, 1041, 0, .null)) rfl (fun _ => rfl) (Nat.le_refl _) K
set_option maxRecDepth 20000 in
theorem lt3 (l0 : zld lv 0 = some (.ref 1000)) (l1 : zld lv 1 = some (.ref 0)) (l2 : zld lv 2 = some (.ref 70)) (l3 : zld lv 3 = some (.int i)) (hi : i.toInt = (I : Int)) (h6 : I + 6 ≤ L) (hL : L ≤ 3072) (k1 : zKd 0 hp = some 10) (k2 : zKd 70 hp1 = some 11) (z1 : zCan 20 126 [.ref 0] hp (some (.int x1), hp1)) (n1 : hp.1 ≤ hp1.1) (z2 : zCan 20 197 [.ref 70] hp1 (some (.int x2), hp2)) (n2 : hp1.1 ≤ hp2.1) (K : zR (some (L, xs)) 20 4 ret zcL (1041, lv, []) hp2 r) : zR (some (L, xs)) 20 4 ret zcL (271, lv, []) hp r := by
  refine q_lr (k := 1) (i := 1) (q := (.aload_n 1, 1, 0, 0, .null)) rfl (fun _ => rfl) l1 ?_
  refine r_call (ix := 0) (as := []) (rest := []) (rv := some (.int x1)) (hp' := hp1) (pc := 272) rfl (show zar 126 = (0, 10) by decide +kernel) rfl rfl rfl k1 (Nat.le_of_ble_eq_true rfl) z1 n1 ?_
  refine r_s (fr' := (276, lv, [])) (hp' := hp1) (q := (.pop, 1, 0, 0, .null)) rfl (fun _ => rfl) (Nat.le_refl _) ?_
  refine q_lr (k := 1) (i := 2) (q := (.aload_n 2, 1, 0, 0, .null)) rfl (fun _ => rfl) l2 ?_
  refine r_call (ix := 70) (as := []) (rest := []) (rv := some (.int x2)) (hp' := hp2) (pc := 277) rfl (show zar 197 = (0, 11) by decide +kernel) rfl rfl rfl k2 (Nat.le_of_ble_eq_true rfl) z2 n2 ?_
  refine r_s (fr' := (281, lv, [])) (hp' := hp2) (q := (.pop, 1, 0, 0, .null)) rfl (fun _ => rfl) (Nat.le_refl _) ?_
  exact r_s (fr' := (1041, lv, [])) (hp' := hp2) (q := (.goto 760, 3, 1041, 0, .null)) rfl (fun _ => rfl) (Nat.le_refl _) K
set_option maxRecDepth 20000 in
theorem lt4 (l0 : zld lv 0 = some (.ref 1000)) (l1 : zld lv 1 = some (.ref 0)) (l2 : zld lv 2 = some (.ref 70)) (l3 : zld lv 3 = some (.int i)) (hi : i.toInt = (I : Int)) (h6 : I + 6 ≤ L) (hL : L ≤ 3072) (k1 : zKd 0 hp = some 10) (k2 : zKd 70 hp1 = some 11) (z1 : zCan 20 128 [.ref 0, .int (xs (I + 1)), .int (xs (I + 2))] hp (some (.int x1), hp1)) (n1 : hp.1 ≤ hp1.1) (z2 : zCan 20 217 [.ref 70, .int (xs (I + 1)), .int (xs (I + 2))] hp1 (some (.int x2), hp2)) (n2 : hp1.1 ≤ hp2.1) (K : zR (some (L, xs)) 20 4 ret zcL (1041, lv, []) hp2 r) : zR (some (L, xs)) 20 4 ret zcL (284, lv, []) hp r := by
  refine q_lr (k := 1) (i := 1) (q := (.aload_n 1, 1, 0, 0, .null)) rfl (fun _ => rfl) l1 ?_
  refine l_arg (pc := 285) (k := 1) rfl rfl rfl rfl rfl l0 l3 hi (by omega) (by decide) hL ?_
  refine l_arg (pc := 290) (k := 2) rfl rfl rfl rfl rfl l0 l3 hi (by omega) (by decide) hL ?_
  refine r_call (ix := 0) (as := [.int (xs (I + 1)), .int (xs (I + 2))]) (rest := []) (rv := some (.int x1)) (hp' := hp1) (pc := 295) rfl (show zar 128 = (2, 10) by decide +kernel) rfl rfl rfl k1 (Nat.le_of_ble_eq_true rfl) z1 n1 ?_
  refine r_s (fr' := (299, lv, [])) (hp' := hp1) (q := (.pop, 1, 0, 0, .null)) rfl (fun _ => rfl) (Nat.le_refl _) ?_
  refine q_lr (k := 1) (i := 2) (q := (.aload_n 2, 1, 0, 0, .null)) rfl (fun _ => rfl) l2 ?_
  refine l_arg (pc := 300) (k := 1) rfl rfl rfl rfl rfl l0 l3 hi (by omega) (by decide) hL ?_
  refine l_arg (pc := 305) (k := 2) rfl rfl rfl rfl rfl l0 l3 hi (by omega) (by decide) hL ?_
  refine r_call (ix := 70) (as := [.int (xs (I + 1)), .int (xs (I + 2))]) (rest := []) (rv := some (.int x2)) (hp' := hp2) (pc := 310) rfl (show zar 217 = (2, 11) by decide +kernel) rfl rfl rfl k2 (Nat.le_of_ble_eq_true rfl) z2 n2 ?_
  refine r_s (fr' := (314, lv, [])) (hp' := hp2) (q := (.pop, 1, 0, 0, .null)) rfl (fun _ => rfl) (Nat.le_refl _) ?_
  exact r_s (fr' := (1041, lv, [])) (hp' := hp2) (q := (.goto 727, 3, 1041, 0, .null)) rfl (fun _ => rfl) (Nat.le_refl _) K
set_option maxRecDepth 20000 in
theorem lt5 (l0 : zld lv 0 = some (.ref 1000)) (l1 : zld lv 1 = some (.ref 0)) (l2 : zld lv 2 = some (.ref 70)) (l3 : zld lv 3 = some (.int i)) (hi : i.toInt = (I : Int)) (h6 : I + 6 ≤ L) (hL : L ≤ 3072) (k1 : zKd 0 hp = some 10) (k2 : zKd 70 hp1 = some 11) (z1 : zCan 20 129 [.ref 0, .int (xs (I + 1)), .int (xs (I + 2))] hp (some (.int x1), hp1)) (n1 : hp.1 ≤ hp1.1) (z2 : zCan 20 218 [.ref 70, .int (xs (I + 1)), .int (xs (I + 2))] hp1 (some (.int x2), hp2)) (n2 : hp1.1 ≤ hp2.1) (K : zR (some (L, xs)) 20 4 ret zcL (1041, lv, []) hp2 r) : zR (some (L, xs)) 20 4 ret zcL (317, lv, []) hp r := by
  refine q_lr (k := 1) (i := 1) (q := (.aload_n 1, 1, 0, 0, .null)) rfl (fun _ => rfl) l1 ?_
  refine l_arg (pc := 318) (k := 1) rfl rfl rfl rfl rfl l0 l3 hi (by omega) (by decide) hL ?_
  refine l_arg (pc := 323) (k := 2) rfl rfl rfl rfl rfl l0 l3 hi (by omega) (by decide) hL ?_
  refine r_call (ix := 0) (as := [.int (xs (I + 1)), .int (xs (I + 2))]) (rest := []) (rv := some (.int x1)) (hp' := hp1) (pc := 328) rfl (show zar 129 = (2, 10) by decide +kernel) rfl rfl rfl k1 (Nat.le_of_ble_eq_true rfl) z1 n1 ?_
  refine r_s (fr' := (332, lv, [])) (hp' := hp1) (q := (.pop, 1, 0, 0, .null)) rfl (fun _ => rfl) (Nat.le_refl _) ?_
  refine q_lr (k := 1) (i := 2) (q := (.aload_n 2, 1, 0, 0, .null)) rfl (fun _ => rfl) l2 ?_
  refine l_arg (pc := 333) (k := 1) rfl rfl rfl rfl rfl l0 l3 hi (by omega) (by decide) hL ?_
  refine l_arg (pc := 338) (k := 2) rfl rfl rfl rfl rfl l0 l3 hi (by omega) (by decide) hL ?_
  refine r_call (ix := 70) (as := [.int (xs (I + 1)), .int (xs (I + 2))]) (rest := []) (rv := some (.int x2)) (hp' := hp2) (pc := 343) rfl (show zar 218 = (2, 11) by decide +kernel) rfl rfl rfl k2 (Nat.le_of_ble_eq_true rfl) z2 n2 ?_
  refine r_s (fr' := (347, lv, [])) (hp' := hp2) (q := (.pop, 1, 0, 0, .null)) rfl (fun _ => rfl) (Nat.le_refl _) ?_
  exact r_s (fr' := (1041, lv, [])) (hp' := hp2) (q := (.goto 694, 3, 1041, 0, .null)) rfl (fun _ => rfl) (Nat.le_refl _) K
set_option maxRecDepth 20000 in
theorem lt6 (l0 : zld lv 0 = some (.ref 1000)) (l1 : zld lv 1 = some (.ref 0)) (l2 : zld lv 2 = some (.ref 70)) (l3 : zld lv 3 = some (.int i)) (hi : i.toInt = (I : Int)) (h6 : I + 6 ≤ L) (hL : L ≤ 3072) (k1 : zKd 0 hp = some 10) (k2 : zKd 70 hp1 = some 11) (z1 : zCan 20 130 [.ref 0, .int (xs (I + 1)), .int (xs (I + 2)), .int (xs (I + 3))] hp (some (.int x1), hp1)) (n1 : hp.1 ≤ hp1.1) (z2 : zCan 20 219 [.ref 70, .int (xs (I + 1)), .int (xs (I + 2)), .int (xs (I + 3))] hp1 (some (.int x2), hp2)) (n2 : hp1.1 ≤ hp2.1) (K : zR (some (L, xs)) 20 4 ret zcL (1041, lv, []) hp2 r) : zR (some (L, xs)) 20 4 ret zcL (350, lv, []) hp r := by
  refine q_lr (k := 1) (i := 1) (q := (.aload_n 1, 1, 0, 0, .null)) rfl (fun _ => rfl) l1 ?_
  refine l_arg (pc := 351) (k := 1) rfl rfl rfl rfl rfl l0 l3 hi (by omega) (by decide) hL ?_
  refine l_arg (pc := 356) (k := 2) rfl rfl rfl rfl rfl l0 l3 hi (by omega) (by decide) hL ?_
  refine l_arg (pc := 361) (k := 3) rfl rfl rfl rfl rfl l0 l3 hi (by omega) (by decide) hL ?_
  refine r_call (ix := 0) (as := [.int (xs (I + 1)), .int (xs (I + 2)), .int (xs (I + 3))]) (rest := []) (rv := some (.int x1)) (hp' := hp1) (pc := 366) rfl (show zar 130 = (3, 10) by decide +kernel) rfl rfl rfl k1 (Nat.le_of_ble_eq_true rfl) z1 n1 ?_
  refine r_s (fr' := (370, lv, [])) (hp' := hp1) (q := (.pop, 1, 0, 0, .null)) rfl (fun _ => rfl) (Nat.le_refl _) ?_
  refine q_lr (k := 1) (i := 2) (q := (.aload_n 2, 1, 0, 0, .null)) rfl (fun _ => rfl) l2 ?_
  refine l_arg (pc := 371) (k := 1) rfl rfl rfl rfl rfl l0 l3 hi (by omega) (by decide) hL ?_
  refine l_arg (pc := 376) (k := 2) rfl rfl rfl rfl rfl l0 l3 hi (by omega) (by decide) hL ?_
  refine l_arg (pc := 381) (k := 3) rfl rfl rfl rfl rfl l0 l3 hi (by omega) (by decide) hL ?_
  refine r_call (ix := 70) (as := [.int (xs (I + 1)), .int (xs (I + 2)), .int (xs (I + 3))]) (rest := []) (rv := some (.int x2)) (hp' := hp2) (pc := 386) rfl (show zar 219 = (3, 11) by decide +kernel) rfl rfl rfl k2 (Nat.le_of_ble_eq_true rfl) z2 n2 ?_
  refine r_s (fr' := (390, lv, [])) (hp' := hp2) (q := (.pop, 1, 0, 0, .null)) rfl (fun _ => rfl) (Nat.le_refl _) ?_
  exact r_s (fr' := (1041, lv, [])) (hp' := hp2) (q := (.goto 651, 3, 1041, 0, .null)) rfl (fun _ => rfl) (Nat.le_refl _) K
set_option maxRecDepth 20000 in
theorem lt7 (l0 : zld lv 0 = some (.ref 1000)) (l1 : zld lv 1 = some (.ref 0)) (l2 : zld lv 2 = some (.ref 70)) (l3 : zld lv 3 = some (.int i)) (hi : i.toInt = (I : Int)) (h6 : I + 6 ≤ L) (hL : L ≤ 3072) (k1 : zKd 0 hp = some 10) (k2 : zKd 70 hp1 = some 11) (z1 : zCan 20 131 [.ref 0, .int (xs (I + 1)), .int (xs (I + 2))] hp (some (.int x1), hp1)) (n1 : hp.1 ≤ hp1.1) (z2 : zCan 20 226 [.ref 70, .int (xs (I + 1)), .int (xs (I + 2))] hp1 (some (.int x2), hp2)) (n2 : hp1.1 ≤ hp2.1) (K : zR (some (L, xs)) 20 4 ret zcL (1041, lv, []) hp2 r) : zR (some (L, xs)) 20 4 ret zcL (393, lv, []) hp r := by
  refine q_lr (k := 1) (i := 1) (q := (.aload_n 1, 1, 0, 0, .null)) rfl (fun _ => rfl) l1 ?_
  refine l_arg (pc := 394) (k := 1) rfl rfl rfl rfl rfl l0 l3 hi (by omega) (by decide) hL ?_
  refine l_arg (pc := 399) (k := 2) rfl rfl rfl rfl rfl l0 l3 hi (by omega) (by decide) hL ?_
  refine r_call (ix := 0) (as := [.int (xs (I + 1)), .int (xs (I + 2))]) (rest := []) (rv := some (.int x1)) (hp' := hp1) (pc := 404) rfl (show zar 131 = (2, 10) by decide +kernel) rfl rfl rfl k1 (Nat.le_of_ble_eq_true rfl) z1 n1 ?_
  refine r_s (fr' := (408, lv, [])) (hp' := hp1) (q := (.pop, 1, 0, 0, .null)) rfl (fun _ => rfl) (Nat.le_refl _) ?_
  refine q_lr (k := 1) (i := 2) (q := (.aload_n 2, 1, 0, 0, .null)) rfl (fun _ => rfl) l2 ?_
  refine l_arg (pc := 409) (k := 1) rfl rfl rfl rfl rfl l0 l3 hi (by omega) (by decide) hL ?_
  refine l_arg (pc := 414) (k := 2) rfl rfl rfl rfl rfl l0 l3 hi (by omega) (by decide) hL ?_
  refine r_call (ix := 70) (as := [.int (xs (I + 1)), .int (xs (I + 2))]) (rest := []) (rv := some (.int x2)) (hp' := hp2) (pc := 419) rfl (show zar 226 = (2, 11) by decide +kernel) rfl rfl rfl k2 (Nat.le_of_ble_eq_true rfl) z2 n2 ?_
  refine r_s (fr' := (423, lv, [])) (hp' := hp2) (q := (.pop, 1, 0, 0, .null)) rfl (fun _ => rfl) (Nat.le_refl _) ?_
  exact r_s (fr' := (1041, lv, [])) (hp' := hp2) (q := (.goto 618, 3, 1041, 0, .null)) rfl (fun _ => rfl) (Nat.le_refl _) K
set_option maxRecDepth 20000 in
theorem lt8 (l0 : zld lv 0 = some (.ref 1000)) (l1 : zld lv 1 = some (.ref 0)) (l2 : zld lv 2 = some (.ref 70)) (l3 : zld lv 3 = some (.int i)) (hi : i.toInt = (I : Int)) (h6 : I + 6 ≤ L) (hL : L ≤ 3072) (k1 : zKd 0 hp = some 10) (k2 : zKd 70 hp1 = some 11) (z1 : zCan 20 132 [.ref 0, .int (xs (I + 1))] hp (some (.int x1), hp1)) (n1 : hp.1 ≤ hp1.1) (z2 : zCan 20 227 [.ref 70, .int (xs (I + 1))] hp1 (some (.int x2), hp2)) (n2 : hp1.1 ≤ hp2.1) (e : x1 = x2) (K : zR (some (L, xs)) 20 4 ret zcL (1041, lv, []) hp2 r) : zR (some (L, xs)) 20 4 ret zcL (426, lv, []) hp r := by
  refine q_lr (k := 1) (i := 1) (q := (.aload_n 1, 1, 0, 0, .null)) rfl (fun _ => rfl) l1 ?_
  refine l_arg (pc := 427) (k := 1) rfl rfl rfl rfl rfl l0 l3 hi (by omega) (by decide) hL ?_
  refine r_call (ix := 0) (as := [.int (xs (I + 1))]) (rest := []) (rv := some (.int x1)) (hp' := hp1) (pc := 432) rfl (show zar 132 = (1, 10) by decide +kernel) rfl rfl rfl k1 (Nat.le_of_ble_eq_true rfl) z1 n1 ?_
  refine q_lr (k := 1) (i := 2) (q := (.aload_n 2, 1, 0, 0, .null)) rfl (fun _ => rfl) l2 ?_
  refine l_arg (pc := 436) (k := 1) rfl rfl rfl rfl rfl l0 l3 hi (by omega) (by decide) hL ?_
  refine r_call (ix := 70) (as := [.int (xs (I + 1))]) (rest := [.int x1]) (rv := some (.int x2)) (hp' := hp2) (pc := 441) rfl (show zar 227 = (1, 11) by decide +kernel) rfl rfl rfl k2 (Nat.le_of_ble_eq_true rfl) z2 n2 ?_
  exact r_ifc (len := 3) (a := 1041) (b := 0) (v0 := .null) (cn := .eq) (off := 597) rfl (fun _ => K) (fun c => absurd e (zneq c))
set_option maxRecDepth 20000 in
theorem lt9 (l0 : zld lv 0 = some (.ref 1000)) (l1 : zld lv 1 = some (.ref 0)) (l2 : zld lv 2 = some (.ref 70)) (l3 : zld lv 3 = some (.int i)) (hi : i.toInt = (I : Int)) (h6 : I + 6 ≤ L) (hL : L ≤ 3072) (k1 : zKd 0 hp = some 10) (k2 : zKd 70 hp1 = some 11) (z1 : zCan 20 133 [.ref 0, .int (xs (I + 1))] hp (some (.int x1), hp1)) (n1 : hp.1 ≤ hp1.1) (z2 : zCan 20 228 [.ref 70, .int (xs (I + 1))] hp1 (some (.int x2), hp2)) (n2 : hp1.1 ≤ hp2.1) (K : zR (some (L, xs)) 20 4 ret zcL (1041, lv, []) hp2 r) : zR (some (L, xs)) 20 4 ret zcL (449, lv, []) hp r := by
  refine q_lr (k := 1) (i := 1) (q := (.aload_n 1, 1, 0, 0, .null)) rfl (fun _ => rfl) l1 ?_
  refine l_arg (pc := 450) (k := 1) rfl rfl rfl rfl rfl l0 l3 hi (by omega) (by decide) hL ?_
  refine r_call (ix := 0) (as := [.int (xs (I + 1))]) (rest := []) (rv := some (.int x1)) (hp' := hp1) (pc := 455) rfl (show zar 133 = (1, 10) by decide +kernel) rfl rfl rfl k1 (Nat.le_of_ble_eq_true rfl) z1 n1 ?_
  refine r_s (fr' := (459, lv, [])) (hp' := hp1) (q := (.pop, 1, 0, 0, .null)) rfl (fun _ => rfl) (Nat.le_refl _) ?_
  refine q_lr (k := 1) (i := 2) (q := (.aload_n 2, 1, 0, 0, .null)) rfl (fun _ => rfl) l2 ?_
  refine l_arg (pc := 460) (k := 1) rfl rfl rfl rfl rfl l0 l3 hi (by omega) (by decide) hL ?_
  refine r_call (ix := 70) (as := [.int (xs (I + 1))]) (rest := []) (rv := some (.int x2)) (hp' := hp2) (pc := 465) rfl (show zar 228 = (1, 11) by decide +kernel) rfl rfl rfl k2 (Nat.le_of_ble_eq_true rfl) z2 n2 ?_
  refine r_s (fr' := (469, lv, [])) (hp' := hp2) (q := (.pop, 1, 0, 0, .null)) rfl (fun _ => rfl) (Nat.le_refl _) ?_
  exact r_s (fr' := (1041, lv, [])) (hp' := hp2) (q := (.goto 572, 3, 1041, 0, .null)) rfl (fun _ => rfl) (Nat.le_refl _) K
set_option maxRecDepth 20000 in
theorem lt10 (l0 : zld lv 0 = some (.ref 1000)) (l1 : zld lv 1 = some (.ref 0)) (l2 : zld lv 2 = some (.ref 70)) (l3 : zld lv 3 = some (.int i)) (hi : i.toInt = (I : Int)) (h6 : I + 6 ≤ L) (hL : L ≤ 3072) (k1 : zKd 0 hp = some 10) (k2 : zKd 70 hp1 = some 11) (z1 : zCan 20 134 [.ref 0, .int (xs (I + 1)), .int (xs (I + 2))] hp (some (.int x1), hp1)) (n1 : hp.1 ≤ hp1.1) (z2 : zCan 20 230 [.ref 70, .int (xs (I + 1)), .int (xs (I + 2))] hp1 (some (.int x2), hp2)) (n2 : hp1.1 ≤ hp2.1) (K : zR (some (L, xs)) 20 4 ret zcL (1041, lv, []) hp2 r) : zR (some (L, xs)) 20 4 ret zcL (472, lv, []) hp r := by
  refine q_lr (k := 1) (i := 1) (q := (.aload_n 1, 1, 0, 0, .null)) rfl (fun _ => rfl) l1 ?_
  refine l_arg (pc := 473) (k := 1) rfl rfl rfl rfl rfl l0 l3 hi (by omega) (by decide) hL ?_
  refine l_arg (pc := 478) (k := 2) rfl rfl rfl rfl rfl l0 l3 hi (by omega) (by decide) hL ?_
  refine r_call (ix := 0) (as := [.int (xs (I + 1)), .int (xs (I + 2))]) (rest := []) (rv := some (.int x1)) (hp' := hp1) (pc := 483) rfl (show zar 134 = (2, 10) by decide +kernel) rfl rfl rfl k1 (Nat.le_of_ble_eq_true rfl) z1 n1 ?_
  refine r_s (fr' := (487, lv, [])) (hp' := hp1) (q := (.pop, 1, 0, 0, .null)) rfl (fun _ => rfl) (Nat.le_refl _) ?_
  refine q_lr (k := 1) (i := 2) (q := (.aload_n 2, 1, 0, 0, .null)) rfl (fun _ => rfl) l2 ?_
  refine l_arg (pc := 488) (k := 1) rfl rfl rfl rfl rfl l0 l3 hi (by omega) (by decide) hL ?_
  refine l_arg (pc := 493) (k := 2) rfl rfl rfl rfl rfl l0 l3 hi (by omega) (by decide) hL ?_
  refine r_call (ix := 70) (as := [.int (xs (I + 1)), .int (xs (I + 2))]) (rest := []) (rv := some (.int x2)) (hp' := hp2) (pc := 498) rfl (show zar 230 = (2, 11) by decide +kernel) rfl rfl rfl k2 (Nat.le_of_ble_eq_true rfl) z2 n2 ?_
  refine r_s (fr' := (502, lv, [])) (hp' := hp2) (q := (.pop, 1, 0, 0, .null)) rfl (fun _ => rfl) (Nat.le_refl _) ?_
  exact r_s (fr' := (1041, lv, [])) (hp' := hp2) (q := (.goto 539, 3, 1041, 0, .null)) rfl (fun _ => rfl) (Nat.le_refl _) K
set_option maxRecDepth 20000 in
theorem lt11 (l0 : zld lv 0 = some (.ref 1000)) (l1 : zld lv 1 = some (.ref 0)) (l2 : zld lv 2 = some (.ref 70)) (l3 : zld lv 3 = some (.int i)) (hi : i.toInt = (I : Int)) (h6 : I + 6 ≤ L) (hL : L ≤ 3072) (k1 : zKd 0 hp = some 10) (k2 : zKd 70 hp1 = some 11) (z1 : zCan 20 135 [.ref 0] hp (some (.int x1), hp1)) (n1 : hp.1 ≤ hp1.1) (z2 : zCan 20 242 [.ref 70] hp1 (some (.int x2), hp2)) (n2 : hp1.1 ≤ hp2.1) (K : zR (some (L, xs)) 20 4 ret zcL (1041, lv, []) hp2 r) : zR (some (L, xs)) 20 4 ret zcL (505, lv, []) hp r := by
  refine q_lr (k := 1) (i := 1) (q := (.aload_n 1, 1, 0, 0, .null)) rfl (fun _ => rfl) l1 ?_
  refine r_call (ix := 0) (as := []) (rest := []) (rv := some (.int x1)) (hp' := hp1) (pc := 506) rfl (show zar 135 = (0, 10) by decide +kernel) rfl rfl rfl k1 (Nat.le_of_ble_eq_true rfl) z1 n1 ?_
  refine r_s (fr' := (510, lv, [])) (hp' := hp1) (q := (.pop, 1, 0, 0, .null)) rfl (fun _ => rfl) (Nat.le_refl _) ?_
  refine q_lr (k := 1) (i := 2) (q := (.aload_n 2, 1, 0, 0, .null)) rfl (fun _ => rfl) l2 ?_
  refine r_call (ix := 70) (as := []) (rest := []) (rv := some (.int x2)) (hp' := hp2) (pc := 511) rfl (show zar 242 = (0, 11) by decide +kernel) rfl rfl rfl k2 (Nat.le_of_ble_eq_true rfl) z2 n2 ?_
  refine r_s (fr' := (515, lv, [])) (hp' := hp2) (q := (.pop, 1, 0, 0, .null)) rfl (fun _ => rfl) (Nat.le_refl _) ?_
  exact r_s (fr' := (1041, lv, [])) (hp' := hp2) (q := (.goto 526, 3, 1041, 0, .null)) rfl (fun _ => rfl) (Nat.le_refl _) K
set_option maxRecDepth 20000 in
theorem lt12 (l0 : zld lv 0 = some (.ref 1000)) (l1 : zld lv 1 = some (.ref 0)) (l2 : zld lv 2 = some (.ref 70)) (l3 : zld lv 3 = some (.int i)) (hi : i.toInt = (I : Int)) (h6 : I + 6 ≤ L) (hL : L ≤ 3072) (k1 : zKd 0 hp = some 10) (k2 : zKd 70 hp1 = some 11) (z1 : zCan 20 136 [.ref 0, .int (xs (I + 1)), .int (xs (I + 2))] hp (some (.int x1), hp1)) (n1 : hp.1 ≤ hp1.1) (z2 : zCan 20 232 [.ref 70, .int (xs (I + 1)), .int (xs (I + 2))] hp1 (some (.int x2), hp2)) (n2 : hp1.1 ≤ hp2.1) (K : zR (some (L, xs)) 20 4 ret zcL (1041, lv, []) hp2 r) : zR (some (L, xs)) 20 4 ret zcL (518, lv, []) hp r := by
  refine q_lr (k := 1) (i := 1) (q := (.aload_n 1, 1, 0, 0, .null)) rfl (fun _ => rfl) l1 ?_
  refine l_arg (pc := 519) (k := 1) rfl rfl rfl rfl rfl l0 l3 hi (by omega) (by decide) hL ?_
  refine l_arg (pc := 524) (k := 2) rfl rfl rfl rfl rfl l0 l3 hi (by omega) (by decide) hL ?_
  refine r_call (ix := 0) (as := [.int (xs (I + 1)), .int (xs (I + 2))]) (rest := []) (rv := some (.int x1)) (hp' := hp1) (pc := 529) rfl (show zar 136 = (2, 10) by decide +kernel) rfl rfl rfl k1 (Nat.le_of_ble_eq_true rfl) z1 n1 ?_
  refine r_s (fr' := (533, lv, [])) (hp' := hp1) (q := (.pop, 1, 0, 0, .null)) rfl (fun _ => rfl) (Nat.le_refl _) ?_
  refine q_lr (k := 1) (i := 2) (q := (.aload_n 2, 1, 0, 0, .null)) rfl (fun _ => rfl) l2 ?_
  refine l_arg (pc := 534) (k := 1) rfl rfl rfl rfl rfl l0 l3 hi (by omega) (by decide) hL ?_
  refine l_arg (pc := 539) (k := 2) rfl rfl rfl rfl rfl l0 l3 hi (by omega) (by decide) hL ?_
  refine r_call (ix := 70) (as := [.int (xs (I + 1)), .int (xs (I + 2))]) (rest := []) (rv := some (.int x2)) (hp' := hp2) (pc := 544) rfl (show zar 232 = (2, 11) by decide +kernel) rfl rfl rfl k2 (Nat.le_of_ble_eq_true rfl) z2 n2 ?_
  refine r_s (fr' := (548, lv, [])) (hp' := hp2) (q := (.pop, 1, 0, 0, .null)) rfl (fun _ => rfl) (Nat.le_refl _) ?_
  exact r_s (fr' := (1041, lv, [])) (hp' := hp2) (q := (.goto 493, 3, 1041, 0, .null)) rfl (fun _ => rfl) (Nat.le_refl _) K
set_option maxRecDepth 20000 in
theorem lt13 (l0 : zld lv 0 = some (.ref 1000)) (l1 : zld lv 1 = some (.ref 0)) (l2 : zld lv 2 = some (.ref 70)) (l3 : zld lv 3 = some (.int i)) (hi : i.toInt = (I : Int)) (h6 : I + 6 ≤ L) (hL : L ≤ 3072) (k1 : zKd 0 hp = some 10) (k2 : zKd 70 hp1 = some 11) (z1 : zCan 20 137 [.ref 0] hp (some (.int x1), hp1)) (n1 : hp.1 ≤ hp1.1) (z2 : zCan 20 234 [.ref 70] hp1 (some (.int x2), hp2)) (n2 : hp1.1 ≤ hp2.1) (K : zR (some (L, xs)) 20 4 ret zcL (1041, lv, []) hp2 r) : zR (some (L, xs)) 20 4 ret zcL (551, lv, []) hp r := by
  refine q_lr (k := 1) (i := 1) (q := (.aload_n 1, 1, 0, 0, .null)) rfl (fun _ => rfl) l1 ?_
  refine r_call (ix := 0) (as := []) (rest := []) (rv := some (.int x1)) (hp' := hp1) (pc := 552) rfl (show zar 137 = (0, 10) by decide +kernel) rfl rfl rfl k1 (Nat.le_of_ble_eq_true rfl) z1 n1 ?_
  refine r_s (fr' := (556, lv, [])) (hp' := hp1) (q := (.pop, 1, 0, 0, .null)) rfl (fun _ => rfl) (Nat.le_refl _) ?_
  refine q_lr (k := 1) (i := 2) (q := (.aload_n 2, 1, 0, 0, .null)) rfl (fun _ => rfl) l2 ?_
  refine r_call (ix := 70) (as := []) (rest := []) (rv := some (.int x2)) (hp' := hp2) (pc := 557) rfl (show zar 234 = (0, 11) by decide +kernel) rfl rfl rfl k2 (Nat.le_of_ble_eq_true rfl) z2 n2 ?_
  refine r_s (fr' := (561, lv, [])) (hp' := hp2) (q := (.pop, 1, 0, 0, .null)) rfl (fun _ => rfl) (Nat.le_refl _) ?_
  exact r_s (fr' := (1041, lv, [])) (hp' := hp2) (q := (.goto 480, 3, 1041, 0, .null)) rfl (fun _ => rfl) (Nat.le_refl _) K
set_option maxRecDepth 20000 in
theorem lt14 (l0 : zld lv 0 = some (.ref 1000)) (l1 : zld lv 1 = some (.ref 0)) (l2 : zld lv 2 = some (.ref 70)) (l3 : zld lv 3 = some (.int i)) (hi : i.toInt = (I : Int)) (h6 : I + 6 ≤ L) (hL : L ≤ 3072) (k1 : zKd 0 hp = some 10) (k2 : zKd 70 hp1 = some 11) (z1 : zCan 20 138 [.ref 0] hp (some (.int x1), hp1)) (n1 : hp.1 ≤ hp1.1) (z2 : zCan 20 221 [.ref 70] hp1 (some (.int x2), hp2)) (n2 : hp1.1 ≤ hp2.1) (K : zR (some (L, xs)) 20 4 ret zcL (1041, lv, []) hp2 r) : zR (some (L, xs)) 20 4 ret zcL (564, lv, []) hp r := by
  refine q_lr (k := 1) (i := 1) (q := (.aload_n 1, 1, 0, 0, .null)) rfl (fun _ => rfl) l1 ?_
  refine r_call (ix := 0) (as := []) (rest := []) (rv := some (.int x1)) (hp' := hp1) (pc := 565) rfl (show zar 138 = (0, 10) by decide +kernel) rfl rfl rfl k1 (Nat.le_of_ble_eq_true rfl) z1 n1 ?_
  refine r_s (fr' := (569, lv, [])) (hp' := hp1) (q := (.pop, 1, 0, 0, .null)) rfl (fun _ => rfl) (Nat.le_refl _) ?_
  refine q_lr (k := 1) (i := 2) (q := (.aload_n 2, 1, 0, 0, .null)) rfl (fun _ => rfl) l2 ?_
  refine r_call (ix := 70) (as := []) (rest := []) (rv := some (.int x2)) (hp' := hp2) (pc := 570) rfl (show zar 221 = (0, 11) by decide +kernel) rfl rfl rfl k2 (Nat.le_of_ble_eq_true rfl) z2 n2 ?_
  refine r_s (fr' := (574, lv, [])) (hp' := hp2) (q := (.pop, 1, 0, 0, .null)) rfl (fun _ => rfl) (Nat.le_refl _) ?_
  exact r_s (fr' := (1041, lv, [])) (hp' := hp2) (q := (.goto 467, 3, 1041, 0, .null)) rfl (fun _ => rfl) (Nat.le_refl _) K
set_option maxRecDepth 20000 in
theorem lt15 (l0 : zld lv 0 = some (.ref 1000)) (l1 : zld lv 1 = some (.ref 0)) (l2 : zld lv 2 = some (.ref 70)) (l3 : zld lv 3 = some (.int i)) (hi : i.toInt = (I : Int)) (h6 : I + 6 ≤ L) (hL : L ≤ 3072) (k1 : zKd 0 hp = some 10) (k2 : zKd 70 hp1 = some 11) (z1 : zCan 20 139 [.ref 0, .int (xs (I + 1)), .int (xs (I + 2))] hp (some (.int x1), hp1)) (n1 : hp.1 ≤ hp1.1) (z2 : zCan 20 248 [.ref 70, .int (xs (I + 1)), .int (xs (I + 2))] hp1 (some (.int x2), hp2)) (n2 : hp1.1 ≤ hp2.1) (K : zR (some (L, xs)) 20 4 ret zcL (1041, lv, []) hp2 r) : zR (some (L, xs)) 20 4 ret zcL (577, lv, []) hp r := by
  refine q_lr (k := 1) (i := 1) (q := (.aload_n 1, 1, 0, 0, .null)) rfl (fun _ => rfl) l1 ?_
  refine l_arg (pc := 578) (k := 1) rfl rfl rfl rfl rfl l0 l3 hi (by omega) (by decide) hL ?_
  refine l_arg (pc := 583) (k := 2) rfl rfl rfl rfl rfl l0 l3 hi (by omega) (by decide) hL ?_
  refine r_call (ix := 0) (as := [.int (xs (I + 1)), .int (xs (I + 2))]) (rest := []) (rv := some (.int x1)) (hp' := hp1) (pc := 588) rfl (show zar 139 = (2, 10) by decide +kernel) rfl rfl rfl k1 (Nat.le_of_ble_eq_true rfl) z1 n1 ?_
  refine r_s (fr' := (592, lv, [])) (hp' := hp1) (q := (.pop, 1, 0, 0, .null)) rfl (fun _ => rfl) (Nat.le_refl _) ?_
  refine q_lr (k := 1) (i := 2) (q := (.aload_n 2, 1, 0, 0, .null)) rfl (fun _ => rfl) l2 ?_
  refine l_arg (pc := 593) (k := 1) rfl rfl rfl rfl rfl l0 l3 hi (by omega) (by decide) hL ?_
  refine l_arg (pc := 598) (k := 2) rfl rfl rfl rfl rfl l0 l3 hi (by omega) (by decide) hL ?_
  refine r_call (ix := 70) (as := [.int (xs (I + 1)), .int (xs (I + 2))]) (rest := []) (rv := some (.int x2)) (hp' := hp2) (pc := 603) rfl (show zar 248 = (2, 11) by decide +kernel) rfl rfl rfl k2 (Nat.le_of_ble_eq_true rfl) z2 n2 ?_
  refine r_s (fr' := (607, lv, [])) (hp' := hp2) (q := (.pop, 1, 0, 0, .null)) rfl (fun _ => rfl) (Nat.le_refl _) ?_
  exact r_s (fr' := (1041, lv, [])) (hp' := hp2) (q := (.goto 434, 3, 1041, 0, .null)) rfl (fun _ => rfl) (Nat.le_refl _) K
set_option maxRecDepth 20000 in
theorem lt16 (l0 : zld lv 0 = some (.ref 1000)) (l1 : zld lv 1 = some (.ref 0)) (l2 : zld lv 2 = some (.ref 70)) (l3 : zld lv 3 = some (.int i)) (hi : i.toInt = (I : Int)) (h6 : I + 6 ≤ L) (hL : L ≤ 3072) (k1 : zKd 0 hp = some 10) (k2 : zKd 70 hp1 = some 11) (z1 : zCan 20 141 [.ref 0, .int (xs (I + 1)), .int (xs (I + 2)), .int (if xs (I + 3) = 0 then 0 else 1), .int (xs (I + 4))] hp (some (.int x1), hp1)) (n1 : hp.1 ≤ hp1.1) (z2 : zCan 20 252 [.ref 70, .int (xs (I + 1)), .int (xs (I + 2)), .int (if xs (I + 3) = 0 then 0 else 1), .int (xs (I + 4))] hp1 (some (.int x2), hp2)) (n2 : hp1.1 ≤ hp2.1) (K : zR (some (L, xs)) 20 4 ret zcL (1041, lv, []) hp2 r) : zR (some (L, xs)) 20 4 ret zcL (610, lv, []) hp r := by
  refine q_lr (k := 1) (i := 1) (q := (.aload_n 1, 1, 0, 0, .null)) rfl (fun _ => rfl) l1 ?_
  refine l_arg (pc := 611) (k := 1) rfl rfl rfl rfl rfl l0 l3 hi (by omega) (by decide) hL ?_
  refine l_arg (pc := 616) (k := 2) rfl rfl rfl rfl rfl l0 l3 hi (by omega) (by decide) hL ?_
  refine l_arg (pc := 621) (k := 3) rfl rfl rfl rfl rfl l0 l3 hi (by omega) (by decide) hL ?_
  have hz626 : ∀ {r : zRe}, zR (some (L, xs)) 20 4 ret zcL (634, lv, .int (if xs (I + 3) = 0 then 0 else 1) :: [.int (xs (I + 2)), .int (xs (I + 1)), .ref 0]) hp r → zR (some (L, xs)) 20 4 ret zcL (626, lv, .int (xs (I + 3)) :: [.int (xs (I + 2)), .int (xs (I + 1)), .ref 0]) hp r := by
    intro r K
    refine r_if (len := 3) (a := 633) (b := 0) (v0 := .null) (cn := .eq) (off := 7) rfl (fun c => ?_) (fun c => ?_)
    · rw [if_pos (zeq c)] at K
      exact r_s (fr' := (634, lv, .int 0 :: [.int (xs (I + 2)), .int (xs (I + 1)), .ref 0])) (hp' := hp) (q := (.iconst 0, 1, 0, 0, .null)) rfl (fun _ => rfl) (Nat.le_refl _) K
    · rw [if_neg (zneq c)] at K
      refine r_s (fr' := (630, lv, .int 1 :: [.int (xs (I + 2)), .int (xs (I + 1)), .ref 0])) (hp' := hp) (q := (.iconst 1, 1, 0, 0, .null)) rfl (fun _ => rfl) (Nat.le_refl _) ?_
      exact r_s (fr' := (634, lv, .int 1 :: [.int (xs (I + 2)), .int (xs (I + 1)), .ref 0])) (hp' := hp) (q := (.goto 4, 3, 634, 0, .null)) rfl (fun _ => rfl) (Nat.le_refl _) K
  refine hz626 ?_
  refine l_arg (pc := 634) (k := 4) rfl rfl rfl rfl rfl l0 l3 hi (by omega) (by decide) hL ?_
  refine r_call (ix := 0) (as := [.int (xs (I + 1)), .int (xs (I + 2)), .int (if xs (I + 3) = 0 then 0 else 1), .int (xs (I + 4))]) (rest := []) (rv := some (.int x1)) (hp' := hp1) (pc := 639) rfl (show zar 141 = (4, 10) by decide +kernel) rfl rfl rfl k1 (Nat.le_of_ble_eq_true rfl) z1 n1 ?_
  refine r_s (fr' := (643, lv, [])) (hp' := hp1) (q := (.pop, 1, 0, 0, .null)) rfl (fun _ => rfl) (Nat.le_refl _) ?_
  refine q_lr (k := 1) (i := 2) (q := (.aload_n 2, 1, 0, 0, .null)) rfl (fun _ => rfl) l2 ?_
  refine l_arg (pc := 644) (k := 1) rfl rfl rfl rfl rfl l0 l3 hi (by omega) (by decide) hL ?_
  refine l_arg (pc := 649) (k := 2) rfl rfl rfl rfl rfl l0 l3 hi (by omega) (by decide) hL ?_
  refine l_arg (pc := 654) (k := 3) rfl rfl rfl rfl rfl l0 l3 hi (by omega) (by decide) hL ?_
  have hz659 : ∀ {r : zRe}, zR (some (L, xs)) 20 4 ret zcL (667, lv, .int (if xs (I + 3) = 0 then 0 else 1) :: [.int (xs (I + 2)), .int (xs (I + 1)), .ref 70]) hp1 r → zR (some (L, xs)) 20 4 ret zcL (659, lv, .int (xs (I + 3)) :: [.int (xs (I + 2)), .int (xs (I + 1)), .ref 70]) hp1 r := by
    intro r K
    refine r_if (len := 3) (a := 666) (b := 0) (v0 := .null) (cn := .eq) (off := 7) rfl (fun c => ?_) (fun c => ?_)
    · rw [if_pos (zeq c)] at K
      exact r_s (fr' := (667, lv, .int 0 :: [.int (xs (I + 2)), .int (xs (I + 1)), .ref 70])) (hp' := hp1) (q := (.iconst 0, 1, 0, 0, .null)) rfl (fun _ => rfl) (Nat.le_refl _) K
    · rw [if_neg (zneq c)] at K
      refine r_s (fr' := (663, lv, .int 1 :: [.int (xs (I + 2)), .int (xs (I + 1)), .ref 70])) (hp' := hp1) (q := (.iconst 1, 1, 0, 0, .null)) rfl (fun _ => rfl) (Nat.le_refl _) ?_
      exact r_s (fr' := (667, lv, .int 1 :: [.int (xs (I + 2)), .int (xs (I + 1)), .ref 70])) (hp' := hp1) (q := (.goto 4, 3, 667, 0, .null)) rfl (fun _ => rfl) (Nat.le_refl _) K
  refine hz659 ?_
  refine l_arg (pc := 667) (k := 4) rfl rfl rfl rfl rfl l0 l3 hi (by omega) (by decide) hL ?_
  refine r_call (ix := 70) (as := [.int (xs (I + 1)), .int (xs (I + 2)), .int (if xs (I + 3) = 0 then 0 else 1), .int (xs (I + 4))]) (rest := []) (rv := some (.int x2)) (hp' := hp2) (pc := 672) rfl (show zar 252 = (4, 11) by decide +kernel) rfl rfl rfl k2 (Nat.le_of_ble_eq_true rfl) z2 n2 ?_
  refine r_s (fr' := (676, lv, [])) (hp' := hp2) (q := (.pop, 1, 0, 0, .null)) rfl (fun _ => rfl) (Nat.le_refl _) ?_
  exact r_s (fr' := (1041, lv, [])) (hp' := hp2) (q := (.goto 365, 3, 1041, 0, .null)) rfl (fun _ => rfl) (Nat.le_refl _) K
set_option maxRecDepth 20000 in
theorem lt17 (l0 : zld lv 0 = some (.ref 1000)) (l1 : zld lv 1 = some (.ref 0)) (l2 : zld lv 2 = some (.ref 70)) (l3 : zld lv 3 = some (.int i)) (hi : i.toInt = (I : Int)) (h6 : I + 6 ≤ L) (hL : L ≤ 3072) (k1 : zKd 0 hp = some 10) (k2 : zKd 70 hp1 = some 11) (z1 : zCan 20 142 [.ref 0, .int (xs (I + 1))] hp (some (.int x1), hp1)) (n1 : hp.1 ≤ hp1.1) (z2 : zCan 20 257 [.ref 70, .int (xs (I + 1))] hp1 (some (.int x2), hp2)) (n2 : hp1.1 ≤ hp2.1) (K : zR (some (L, xs)) 20 4 ret zcL (1041, lv, []) hp2 r) : zR (some (L, xs)) 20 4 ret zcL (679, lv, []) hp r := by
  refine q_lr (k := 1) (i := 1) (q := (.aload_n 1, 1, 0, 0, .null)) rfl (fun _ => rfl) l1 ?_
  refine l_arg (pc := 680) (k := 1) rfl rfl rfl rfl rfl l0 l3 hi (by omega) (by decide) hL ?_
  refine r_call (ix := 0) (as := [.int (xs (I + 1))]) (rest := []) (rv := some (.int x1)) (hp' := hp1) (pc := 685) rfl (show zar 142 = (1, 10) by decide +kernel) rfl rfl rfl k1 (Nat.le_of_ble_eq_true rfl) z1 n1 ?_
  refine r_s (fr' := (689, lv, [])) (hp' := hp1) (q := (.pop, 1, 0, 0, .null)) rfl (fun _ => rfl) (Nat.le_refl _) ?_
  refine q_lr (k := 1) (i := 2) (q := (.aload_n 2, 1, 0, 0, .null)) rfl (fun _ => rfl) l2 ?_
  refine l_arg (pc := 690) (k := 1) rfl rfl rfl rfl rfl l0 l3 hi (by omega) (by decide) hL ?_
  refine r_call (ix := 70) (as := [.int (xs (I + 1))]) (rest := []) (rv := some (.int x2)) (hp' := hp2) (pc := 695) rfl (show zar 257 = (1, 11) by decide +kernel) rfl rfl rfl k2 (Nat.le_of_ble_eq_true rfl) z2 n2 ?_
  refine r_s (fr' := (699, lv, [])) (hp' := hp2) (q := (.pop, 1, 0, 0, .null)) rfl (fun _ => rfl) (Nat.le_refl _) ?_
  exact r_s (fr' := (1041, lv, [])) (hp' := hp2) (q := (.goto 342, 3, 1041, 0, .null)) rfl (fun _ => rfl) (Nat.le_refl _) K
set_option maxRecDepth 20000 in
theorem lt18 (l0 : zld lv 0 = some (.ref 1000)) (l1 : zld lv 1 = some (.ref 0)) (l2 : zld lv 2 = some (.ref 70)) (l3 : zld lv 3 = some (.int i)) (hi : i.toInt = (I : Int)) (h6 : I + 6 ≤ L) (hL : L ≤ 3072) (k1 : zKd 0 hp = some 10) (k2 : zKd 70 hp1 = some 11) (z1 : zCan 20 143 [.ref 0, .int (xs (I + 1))] hp (some (.int x1), hp1)) (n1 : hp.1 ≤ hp1.1) (z2 : zCan 20 258 [.ref 70, .int (xs (I + 1))] hp1 (some (.int x2), hp2)) (n2 : hp1.1 ≤ hp2.1) (K : zR (some (L, xs)) 20 4 ret zcL (1041, lv, []) hp2 r) : zR (some (L, xs)) 20 4 ret zcL (702, lv, []) hp r := by
  refine q_lr (k := 1) (i := 1) (q := (.aload_n 1, 1, 0, 0, .null)) rfl (fun _ => rfl) l1 ?_
  refine l_arg (pc := 703) (k := 1) rfl rfl rfl rfl rfl l0 l3 hi (by omega) (by decide) hL ?_
  refine r_call (ix := 0) (as := [.int (xs (I + 1))]) (rest := []) (rv := some (.int x1)) (hp' := hp1) (pc := 708) rfl (show zar 143 = (1, 10) by decide +kernel) rfl rfl rfl k1 (Nat.le_of_ble_eq_true rfl) z1 n1 ?_
  refine r_s (fr' := (712, lv, [])) (hp' := hp1) (q := (.pop, 1, 0, 0, .null)) rfl (fun _ => rfl) (Nat.le_refl _) ?_
  refine q_lr (k := 1) (i := 2) (q := (.aload_n 2, 1, 0, 0, .null)) rfl (fun _ => rfl) l2 ?_
  refine l_arg (pc := 713) (k := 1) rfl rfl rfl rfl rfl l0 l3 hi (by omega) (by decide) hL ?_
  refine r_call (ix := 70) (as := [.int (xs (I + 1))]) (rest := []) (rv := some (.int x2)) (hp' := hp2) (pc := 718) rfl (show zar 258 = (1, 11) by decide +kernel) rfl rfl rfl k2 (Nat.le_of_ble_eq_true rfl) z2 n2 ?_
  refine r_s (fr' := (722, lv, [])) (hp' := hp2) (q := (.pop, 1, 0, 0, .null)) rfl (fun _ => rfl) (Nat.le_refl _) ?_
  exact r_s (fr' := (1041, lv, [])) (hp' := hp2) (q := (.goto 319, 3, 1041, 0, .null)) rfl (fun _ => rfl) (Nat.le_refl _) K
set_option maxRecDepth 20000 in
theorem lt19 (l0 : zld lv 0 = some (.ref 1000)) (l1 : zld lv 1 = some (.ref 0)) (l2 : zld lv 2 = some (.ref 70)) (l3 : zld lv 3 = some (.int i)) (hi : i.toInt = (I : Int)) (h6 : I + 6 ≤ L) (hL : L ≤ 3072) (k1 : zKd 0 hp = some 10) (k2 : zKd 70 hp1 = some 11) (z1 : zCan 20 144 [.ref 0, .int (xs (I + 1)), .int (xs (I + 2))] hp (some (.int x1), hp1)) (n1 : hp.1 ≤ hp1.1) (z2 : zCan 20 261 [.ref 70, .int (xs (I + 1)), .int (xs (I + 2))] hp1 (some (.int x2), hp2)) (n2 : hp1.1 ≤ hp2.1) (K : zR (some (L, xs)) 20 4 ret zcL (1041, lv, []) hp2 r) : zR (some (L, xs)) 20 4 ret zcL (725, lv, []) hp r := by
  refine q_lr (k := 1) (i := 1) (q := (.aload_n 1, 1, 0, 0, .null)) rfl (fun _ => rfl) l1 ?_
  refine l_arg (pc := 726) (k := 1) rfl rfl rfl rfl rfl l0 l3 hi (by omega) (by decide) hL ?_
  refine l_arg (pc := 731) (k := 2) rfl rfl rfl rfl rfl l0 l3 hi (by omega) (by decide) hL ?_
  refine r_call (ix := 0) (as := [.int (xs (I + 1)), .int (xs (I + 2))]) (rest := []) (rv := some (.int x1)) (hp' := hp1) (pc := 736) rfl (show zar 144 = (2, 10) by decide +kernel) rfl rfl rfl k1 (Nat.le_of_ble_eq_true rfl) z1 n1 ?_
  refine r_s (fr' := (740, lv, [])) (hp' := hp1) (q := (.pop, 1, 0, 0, .null)) rfl (fun _ => rfl) (Nat.le_refl _) ?_
  refine q_lr (k := 1) (i := 2) (q := (.aload_n 2, 1, 0, 0, .null)) rfl (fun _ => rfl) l2 ?_
  refine l_arg (pc := 741) (k := 1) rfl rfl rfl rfl rfl l0 l3 hi (by omega) (by decide) hL ?_
  refine l_arg (pc := 746) (k := 2) rfl rfl rfl rfl rfl l0 l3 hi (by omega) (by decide) hL ?_
  refine r_call (ix := 70) (as := [.int (xs (I + 1)), .int (xs (I + 2))]) (rest := []) (rv := some (.int x2)) (hp' := hp2) (pc := 751) rfl (show zar 261 = (2, 11) by decide +kernel) rfl rfl rfl k2 (Nat.le_of_ble_eq_true rfl) z2 n2 ?_
  refine r_s (fr' := (755, lv, [])) (hp' := hp2) (q := (.pop, 1, 0, 0, .null)) rfl (fun _ => rfl) (Nat.le_refl _) ?_
  exact r_s (fr' := (1041, lv, [])) (hp' := hp2) (q := (.goto 286, 3, 1041, 0, .null)) rfl (fun _ => rfl) (Nat.le_refl _) K
set_option maxRecDepth 20000 in
theorem lt20 (l0 : zld lv 0 = some (.ref 1000)) (l1 : zld lv 1 = some (.ref 0)) (l2 : zld lv 2 = some (.ref 70)) (l3 : zld lv 3 = some (.int i)) (hi : i.toInt = (I : Int)) (h6 : I + 6 ≤ L) (hL : L ≤ 3072) (k1 : zKd 0 hp = some 10) (k2 : zKd 70 hp1 = some 11) (z1 : zCan 20 145 [.ref 0, .int (xs (I + 1))] hp (some (.int x1), hp1)) (n1 : hp.1 ≤ hp1.1) (z2 : zCan 20 262 [.ref 70, .int (xs (I + 1))] hp1 (some (.int x2), hp2)) (n2 : hp1.1 ≤ hp2.1) (K : zR (some (L, xs)) 20 4 ret zcL (1041, lv, []) hp2 r) : zR (some (L, xs)) 20 4 ret zcL (758, lv, []) hp r := by
  refine q_lr (k := 1) (i := 1) (q := (.aload_n 1, 1, 0, 0, .null)) rfl (fun _ => rfl) l1 ?_
  refine l_arg (pc := 759) (k := 1) rfl rfl rfl rfl rfl l0 l3 hi (by omega) (by decide) hL ?_
  refine r_call (ix := 0) (as := [.int (xs (I + 1))]) (rest := []) (rv := some (.int x1)) (hp' := hp1) (pc := 764) rfl (show zar 145 = (1, 10) by decide +kernel) rfl rfl rfl k1 (Nat.le_of_ble_eq_true rfl) z1 n1 ?_
  refine r_s (fr' := (768, lv, [])) (hp' := hp1) (q := (.pop, 1, 0, 0, .null)) rfl (fun _ => rfl) (Nat.le_refl _) ?_
  refine q_lr (k := 1) (i := 2) (q := (.aload_n 2, 1, 0, 0, .null)) rfl (fun _ => rfl) l2 ?_
  refine l_arg (pc := 769) (k := 1) rfl rfl rfl rfl rfl l0 l3 hi (by omega) (by decide) hL ?_
  refine r_call (ix := 70) (as := [.int (xs (I + 1))]) (rest := []) (rv := some (.int x2)) (hp' := hp2) (pc := 774) rfl (show zar 262 = (1, 11) by decide +kernel) rfl rfl rfl k2 (Nat.le_of_ble_eq_true rfl) z2 n2 ?_
  refine r_s (fr' := (778, lv, [])) (hp' := hp2) (q := (.pop, 1, 0, 0, .null)) rfl (fun _ => rfl) (Nat.le_refl _) ?_
  exact r_s (fr' := (1041, lv, [])) (hp' := hp2) (q := (.goto 263, 3, 1041, 0, .null)) rfl (fun _ => rfl) (Nat.le_refl _) K
set_option maxRecDepth 20000 in
theorem lt21 (l0 : zld lv 0 = some (.ref 1000)) (l1 : zld lv 1 = some (.ref 0)) (l2 : zld lv 2 = some (.ref 70)) (l3 : zld lv 3 = some (.int i)) (hi : i.toInt = (I : Int)) (h6 : I + 6 ≤ L) (hL : L ≤ 3072) (k1 : zKd 0 hp = some 10) (k2 : zKd 70 hp1 = some 11) (z1 : zCan 20 146 [.ref 0, .int (xs (I + 1))] hp (some (.int x1), hp1)) (n1 : hp.1 ≤ hp1.1) (z2 : zCan 20 264 [.ref 70, .int (xs (I + 1))] hp1 (some (.int x2), hp2)) (n2 : hp1.1 ≤ hp2.1) (K : zR (some (L, xs)) 20 4 ret zcL (1041, lv, []) hp2 r) : zR (some (L, xs)) 20 4 ret zcL (781, lv, []) hp r := by
  refine q_lr (k := 1) (i := 1) (q := (.aload_n 1, 1, 0, 0, .null)) rfl (fun _ => rfl) l1 ?_
  refine l_arg (pc := 782) (k := 1) rfl rfl rfl rfl rfl l0 l3 hi (by omega) (by decide) hL ?_
  refine r_call (ix := 0) (as := [.int (xs (I + 1))]) (rest := []) (rv := some (.int x1)) (hp' := hp1) (pc := 787) rfl (show zar 146 = (1, 10) by decide +kernel) rfl rfl rfl k1 (Nat.le_of_ble_eq_true rfl) z1 n1 ?_
  refine r_s (fr' := (791, lv, [])) (hp' := hp1) (q := (.pop, 1, 0, 0, .null)) rfl (fun _ => rfl) (Nat.le_refl _) ?_
  refine q_lr (k := 1) (i := 2) (q := (.aload_n 2, 1, 0, 0, .null)) rfl (fun _ => rfl) l2 ?_
  refine l_arg (pc := 792) (k := 1) rfl rfl rfl rfl rfl l0 l3 hi (by omega) (by decide) hL ?_
  refine r_call (ix := 70) (as := [.int (xs (I + 1))]) (rest := []) (rv := some (.int x2)) (hp' := hp2) (pc := 797) rfl (show zar 264 = (1, 11) by decide +kernel) rfl rfl rfl k2 (Nat.le_of_ble_eq_true rfl) z2 n2 ?_
  refine r_s (fr' := (801, lv, [])) (hp' := hp2) (q := (.pop, 1, 0, 0, .null)) rfl (fun _ => rfl) (Nat.le_refl _) ?_
  exact r_s (fr' := (1041, lv, [])) (hp' := hp2) (q := (.goto 240, 3, 1041, 0, .null)) rfl (fun _ => rfl) (Nat.le_refl _) K
set_option maxRecDepth 20000 in
theorem lt22 (l0 : zld lv 0 = some (.ref 1000)) (l1 : zld lv 1 = some (.ref 0)) (l2 : zld lv 2 = some (.ref 70)) (l3 : zld lv 3 = some (.int i)) (hi : i.toInt = (I : Int)) (h6 : I + 6 ≤ L) (hL : L ≤ 3072) (k1 : zKd 0 hp = some 10) (k2 : zKd 70 hp1 = some 11) (z1 : zCan 20 147 [.ref 0, .int (xs (I + 1))] hp (some (.int x1), hp1)) (n1 : hp.1 ≤ hp1.1) (z2 : zCan 20 265 [.ref 70, .int (xs (I + 1))] hp1 (some (.int x2), hp2)) (n2 : hp1.1 ≤ hp2.1) (K : zR (some (L, xs)) 20 4 ret zcL (1041, lv, []) hp2 r) : zR (some (L, xs)) 20 4 ret zcL (804, lv, []) hp r := by
  refine q_lr (k := 1) (i := 1) (q := (.aload_n 1, 1, 0, 0, .null)) rfl (fun _ => rfl) l1 ?_
  refine l_arg (pc := 805) (k := 1) rfl rfl rfl rfl rfl l0 l3 hi (by omega) (by decide) hL ?_
  refine r_call (ix := 0) (as := [.int (xs (I + 1))]) (rest := []) (rv := some (.int x1)) (hp' := hp1) (pc := 810) rfl (show zar 147 = (1, 10) by decide +kernel) rfl rfl rfl k1 (Nat.le_of_ble_eq_true rfl) z1 n1 ?_
  refine r_s (fr' := (814, lv, [])) (hp' := hp1) (q := (.pop, 1, 0, 0, .null)) rfl (fun _ => rfl) (Nat.le_refl _) ?_
  refine q_lr (k := 1) (i := 2) (q := (.aload_n 2, 1, 0, 0, .null)) rfl (fun _ => rfl) l2 ?_
  refine l_arg (pc := 815) (k := 1) rfl rfl rfl rfl rfl l0 l3 hi (by omega) (by decide) hL ?_
  refine r_call (ix := 70) (as := [.int (xs (I + 1))]) (rest := []) (rv := some (.int x2)) (hp' := hp2) (pc := 820) rfl (show zar 265 = (1, 11) by decide +kernel) rfl rfl rfl k2 (Nat.le_of_ble_eq_true rfl) z2 n2 ?_
  refine r_s (fr' := (824, lv, [])) (hp' := hp2) (q := (.pop, 1, 0, 0, .null)) rfl (fun _ => rfl) (Nat.le_refl _) ?_
  exact r_s (fr' := (1041, lv, [])) (hp' := hp2) (q := (.goto 217, 3, 1041, 0, .null)) rfl (fun _ => rfl) (Nat.le_refl _) K
set_option maxRecDepth 20000 in
theorem lt23 (l0 : zld lv 0 = some (.ref 1000)) (l1 : zld lv 1 = some (.ref 0)) (l2 : zld lv 2 = some (.ref 70)) (l3 : zld lv 3 = some (.int i)) (hi : i.toInt = (I : Int)) (h6 : I + 6 ≤ L) (hL : L ≤ 3072) (k1 : zKd 0 hp = some 10) (k2 : zKd 70 hp1 = some 11) (z1 : zCan 20 148 [.ref 0, .int (xs (I + 1)), .int (xs (I + 2))] hp (some (.int x1), hp1)) (n1 : hp.1 ≤ hp1.1) (z2 : zCan 20 267 [.ref 70, .int (xs (I + 1)), .int (xs (I + 2))] hp1 (some (.int x2), hp2)) (n2 : hp1.1 ≤ hp2.1) (K : zR (some (L, xs)) 20 4 ret zcL (1041, lv, []) hp2 r) : zR (some (L, xs)) 20 4 ret zcL (827, lv, []) hp r := by
  refine q_lr (k := 1) (i := 1) (q := (.aload_n 1, 1, 0, 0, .null)) rfl (fun _ => rfl) l1 ?_
  refine l_arg (pc := 828) (k := 1) rfl rfl rfl rfl rfl l0 l3 hi (by omega) (by decide) hL ?_
  refine l_arg (pc := 833) (k := 2) rfl rfl rfl rfl rfl l0 l3 hi (by omega) (by decide) hL ?_
  refine r_call (ix := 0) (as := [.int (xs (I + 1)), .int (xs (I + 2))]) (rest := []) (rv := some (.int x1)) (hp' := hp1) (pc := 838) rfl (show zar 148 = (2, 10) by decide +kernel) rfl rfl rfl k1 (Nat.le_of_ble_eq_true rfl) z1 n1 ?_
  refine r_s (fr' := (842, lv, [])) (hp' := hp1) (q := (.pop, 1, 0, 0, .null)) rfl (fun _ => rfl) (Nat.le_refl _) ?_
  refine q_lr (k := 1) (i := 2) (q := (.aload_n 2, 1, 0, 0, .null)) rfl (fun _ => rfl) l2 ?_
  refine l_arg (pc := 843) (k := 1) rfl rfl rfl rfl rfl l0 l3 hi (by omega) (by decide) hL ?_
  refine l_arg (pc := 848) (k := 2) rfl rfl rfl rfl rfl l0 l3 hi (by omega) (by decide) hL ?_
  refine r_call (ix := 70) (as := [.int (xs (I + 1)), .int (xs (I + 2))]) (rest := []) (rv := some (.int x2)) (hp' := hp2) (pc := 853) rfl (show zar 267 = (2, 11) by decide +kernel) rfl rfl rfl k2 (Nat.le_of_ble_eq_true rfl) z2 n2 ?_
  refine r_s (fr' := (857, lv, [])) (hp' := hp2) (q := (.pop, 1, 0, 0, .null)) rfl (fun _ => rfl) (Nat.le_refl _) ?_
  exact r_s (fr' := (1041, lv, [])) (hp' := hp2) (q := (.goto 184, 3, 1041, 0, .null)) rfl (fun _ => rfl) (Nat.le_refl _) K
set_option maxRecDepth 20000 in
theorem lt24 (l0 : zld lv 0 = some (.ref 1000)) (l1 : zld lv 1 = some (.ref 0)) (l2 : zld lv 2 = some (.ref 70)) (l3 : zld lv 3 = some (.int i)) (hi : i.toInt = (I : Int)) (h6 : I + 6 ≤ L) (hL : L ≤ 3072) (k1 : zKd 0 hp = some 10) (k2 : zKd 70 hp1 = some 11) (z1 : zCan 20 149 [.ref 0, .int (xs (I + 1))] hp (some (.int x1), hp1)) (n1 : hp.1 ≤ hp1.1) (z2 : zCan 20 269 [.ref 70, .int (xs (I + 1))] hp1 (some (.int x2), hp2)) (n2 : hp1.1 ≤ hp2.1) (K : zR (some (L, xs)) 20 4 ret zcL (1041, lv, []) hp2 r) : zR (some (L, xs)) 20 4 ret zcL (860, lv, []) hp r := by
  refine q_lr (k := 1) (i := 1) (q := (.aload_n 1, 1, 0, 0, .null)) rfl (fun _ => rfl) l1 ?_
  refine l_arg (pc := 861) (k := 1) rfl rfl rfl rfl rfl l0 l3 hi (by omega) (by decide) hL ?_
  refine r_call (ix := 0) (as := [.int (xs (I + 1))]) (rest := []) (rv := some (.int x1)) (hp' := hp1) (pc := 866) rfl (show zar 149 = (1, 10) by decide +kernel) rfl rfl rfl k1 (Nat.le_of_ble_eq_true rfl) z1 n1 ?_
  refine r_s (fr' := (870, lv, [])) (hp' := hp1) (q := (.pop, 1, 0, 0, .null)) rfl (fun _ => rfl) (Nat.le_refl _) ?_
  refine q_lr (k := 1) (i := 2) (q := (.aload_n 2, 1, 0, 0, .null)) rfl (fun _ => rfl) l2 ?_
  refine l_arg (pc := 871) (k := 1) rfl rfl rfl rfl rfl l0 l3 hi (by omega) (by decide) hL ?_
  refine r_call (ix := 70) (as := [.int (xs (I + 1))]) (rest := []) (rv := some (.int x2)) (hp' := hp2) (pc := 876) rfl (show zar 269 = (1, 11) by decide +kernel) rfl rfl rfl k2 (Nat.le_of_ble_eq_true rfl) z2 n2 ?_
  refine r_s (fr' := (880, lv, [])) (hp' := hp2) (q := (.pop, 1, 0, 0, .null)) rfl (fun _ => rfl) (Nat.le_refl _) ?_
  exact r_s (fr' := (1041, lv, [])) (hp' := hp2) (q := (.goto 161, 3, 1041, 0, .null)) rfl (fun _ => rfl) (Nat.le_refl _) K
set_option maxRecDepth 20000 in
theorem lt25 (l0 : zld lv 0 = some (.ref 1000)) (l1 : zld lv 1 = some (.ref 0)) (l2 : zld lv 2 = some (.ref 70)) (l3 : zld lv 3 = some (.int i)) (hi : i.toInt = (I : Int)) (h6 : I + 6 ≤ L) (hL : L ≤ 3072) (k1 : zKd 0 hp = some 10) (k2 : zKd 70 hp1 = some 11) (z1 : zCan 20 150 [.ref 0, .int (xs (I + 1))] hp (some (.int x1), hp1)) (n1 : hp.1 ≤ hp1.1) (z2 : zCan 20 272 [.ref 70, .int (xs (I + 1))] hp1 (some (.int x2), hp2)) (n2 : hp1.1 ≤ hp2.1) (K : zR (some (L, xs)) 20 4 ret zcL (1041, lv, []) hp2 r) : zR (some (L, xs)) 20 4 ret zcL (883, lv, []) hp r := by
  refine q_lr (k := 1) (i := 1) (q := (.aload_n 1, 1, 0, 0, .null)) rfl (fun _ => rfl) l1 ?_
  refine l_arg (pc := 884) (k := 1) rfl rfl rfl rfl rfl l0 l3 hi (by omega) (by decide) hL ?_
  refine r_call (ix := 0) (as := [.int (xs (I + 1))]) (rest := []) (rv := some (.int x1)) (hp' := hp1) (pc := 889) rfl (show zar 150 = (1, 10) by decide +kernel) rfl rfl rfl k1 (Nat.le_of_ble_eq_true rfl) z1 n1 ?_
  refine r_s (fr' := (893, lv, [])) (hp' := hp1) (q := (.pop, 1, 0, 0, .null)) rfl (fun _ => rfl) (Nat.le_refl _) ?_
  refine q_lr (k := 1) (i := 2) (q := (.aload_n 2, 1, 0, 0, .null)) rfl (fun _ => rfl) l2 ?_
  refine l_arg (pc := 894) (k := 1) rfl rfl rfl rfl rfl l0 l3 hi (by omega) (by decide) hL ?_
  refine r_call (ix := 70) (as := [.int (xs (I + 1))]) (rest := []) (rv := some (.int x2)) (hp' := hp2) (pc := 899) rfl (show zar 272 = (1, 11) by decide +kernel) rfl rfl rfl k2 (Nat.le_of_ble_eq_true rfl) z2 n2 ?_
  refine r_s (fr' := (903, lv, [])) (hp' := hp2) (q := (.pop, 1, 0, 0, .null)) rfl (fun _ => rfl) (Nat.le_refl _) ?_
  exact r_s (fr' := (1041, lv, [])) (hp' := hp2) (q := (.goto 138, 3, 1041, 0, .null)) rfl (fun _ => rfl) (Nat.le_refl _) K
set_option maxRecDepth 20000 in
theorem lt26 (l0 : zld lv 0 = some (.ref 1000)) (l1 : zld lv 1 = some (.ref 0)) (l2 : zld lv 2 = some (.ref 70)) (l3 : zld lv 3 = some (.int i)) (hi : i.toInt = (I : Int)) (h6 : I + 6 ≤ L) (hL : L ≤ 3072) (k1 : zKd 0 hp = some 10) (k2 : zKd 70 hp1 = some 11) (z1 : zCan 20 152 [.ref 0, .int (xs (I + 1))] hp (some (.int x1), hp1)) (n1 : hp.1 ≤ hp1.1) (z2 : zCan 20 273 [.ref 70, .int (xs (I + 1))] hp1 (some (.int x2), hp2)) (n2 : hp1.1 ≤ hp2.1) (K : zR (some (L, xs)) 20 4 ret zcL (1041, lv, []) hp2 r) : zR (some (L, xs)) 20 4 ret zcL (906, lv, []) hp r := by
  refine q_lr (k := 1) (i := 1) (q := (.aload_n 1, 1, 0, 0, .null)) rfl (fun _ => rfl) l1 ?_
  refine l_arg (pc := 907) (k := 1) rfl rfl rfl rfl rfl l0 l3 hi (by omega) (by decide) hL ?_
  refine r_call (ix := 0) (as := [.int (xs (I + 1))]) (rest := []) (rv := some (.int x1)) (hp' := hp1) (pc := 912) rfl (show zar 152 = (1, 10) by decide +kernel) rfl rfl rfl k1 (Nat.le_of_ble_eq_true rfl) z1 n1 ?_
  refine r_s (fr' := (916, lv, [])) (hp' := hp1) (q := (.pop, 1, 0, 0, .null)) rfl (fun _ => rfl) (Nat.le_refl _) ?_
  refine q_lr (k := 1) (i := 2) (q := (.aload_n 2, 1, 0, 0, .null)) rfl (fun _ => rfl) l2 ?_
  refine l_arg (pc := 917) (k := 1) rfl rfl rfl rfl rfl l0 l3 hi (by omega) (by decide) hL ?_
  refine r_call (ix := 70) (as := [.int (xs (I + 1))]) (rest := []) (rv := some (.int x2)) (hp' := hp2) (pc := 922) rfl (show zar 273 = (1, 11) by decide +kernel) rfl rfl rfl k2 (Nat.le_of_ble_eq_true rfl) z2 n2 ?_
  refine r_s (fr' := (926, lv, [])) (hp' := hp2) (q := (.pop, 1, 0, 0, .null)) rfl (fun _ => rfl) (Nat.le_refl _) ?_
  exact r_s (fr' := (1041, lv, [])) (hp' := hp2) (q := (.goto 115, 3, 1041, 0, .null)) rfl (fun _ => rfl) (Nat.le_refl _) K
set_option maxRecDepth 20000 in
theorem lt27 (l0 : zld lv 0 = some (.ref 1000)) (l1 : zld lv 1 = some (.ref 0)) (l2 : zld lv 2 = some (.ref 70)) (l3 : zld lv 3 = some (.int i)) (hi : i.toInt = (I : Int)) (h6 : I + 6 ≤ L) (hL : L ≤ 3072) (k1 : zKd 0 hp = some 10) (k2 : zKd 70 hp1 = some 11) (z1 : zCan 20 153 [.ref 0, .int (xs (I + 1)), .int (xs (I + 2)), .int (xs (I + 3))] hp (some (.int x1), hp1)) (n1 : hp.1 ≤ hp1.1) (z2 : zCan 20 276 [.ref 70, .int (xs (I + 1)), .int (xs (I + 2)), .int (xs (I + 3))] hp1 (some (.int x2), hp2)) (n2 : hp1.1 ≤ hp2.1) (K : zR (some (L, xs)) 20 4 ret zcL (1041, lv, []) hp2 r) : zR (some (L, xs)) 20 4 ret zcL (929, lv, []) hp r := by
  refine q_lr (k := 1) (i := 1) (q := (.aload_n 1, 1, 0, 0, .null)) rfl (fun _ => rfl) l1 ?_
  refine l_arg (pc := 930) (k := 1) rfl rfl rfl rfl rfl l0 l3 hi (by omega) (by decide) hL ?_
  refine l_arg (pc := 935) (k := 2) rfl rfl rfl rfl rfl l0 l3 hi (by omega) (by decide) hL ?_
  refine l_arg (pc := 940) (k := 3) rfl rfl rfl rfl rfl l0 l3 hi (by omega) (by decide) hL ?_
  refine r_call (ix := 0) (as := [.int (xs (I + 1)), .int (xs (I + 2)), .int (xs (I + 3))]) (rest := []) (rv := some (.int x1)) (hp' := hp1) (pc := 945) rfl (show zar 153 = (3, 10) by decide +kernel) rfl rfl rfl k1 (Nat.le_of_ble_eq_true rfl) z1 n1 ?_
  refine r_s (fr' := (949, lv, [])) (hp' := hp1) (q := (.pop, 1, 0, 0, .null)) rfl (fun _ => rfl) (Nat.le_refl _) ?_
  refine q_lr (k := 1) (i := 2) (q := (.aload_n 2, 1, 0, 0, .null)) rfl (fun _ => rfl) l2 ?_
  refine l_arg (pc := 950) (k := 1) rfl rfl rfl rfl rfl l0 l3 hi (by omega) (by decide) hL ?_
  refine l_arg (pc := 955) (k := 2) rfl rfl rfl rfl rfl l0 l3 hi (by omega) (by decide) hL ?_
  refine l_arg (pc := 960) (k := 3) rfl rfl rfl rfl rfl l0 l3 hi (by omega) (by decide) hL ?_
  refine r_call (ix := 70) (as := [.int (xs (I + 1)), .int (xs (I + 2)), .int (xs (I + 3))]) (rest := []) (rv := some (.int x2)) (hp' := hp2) (pc := 965) rfl (show zar 276 = (3, 11) by decide +kernel) rfl rfl rfl k2 (Nat.le_of_ble_eq_true rfl) z2 n2 ?_
  refine r_s (fr' := (969, lv, [])) (hp' := hp2) (q := (.pop, 1, 0, 0, .null)) rfl (fun _ => rfl) (Nat.le_refl _) ?_
  exact r_s (fr' := (1041, lv, [])) (hp' := hp2) (q := (.goto 72, 3, 1041, 0, .null)) rfl (fun _ => rfl) (Nat.le_refl _) K
set_option maxRecDepth 20000 in
theorem lt28 (l0 : zld lv 0 = some (.ref 1000)) (l1 : zld lv 1 = some (.ref 0)) (l2 : zld lv 2 = some (.ref 70)) (l3 : zld lv 3 = some (.int i)) (hi : i.toInt = (I : Int)) (h6 : I + 6 ≤ L) (hL : L ≤ 3072) (k1 : zKd 0 hp = some 10) (k2 : zKd 70 hp1 = some 11) (z1 : zCan 20 154 [.ref 0, .int (xs (I + 1))] hp (some (.int x1), hp1)) (n1 : hp.1 ≤ hp1.1) (z2 : zCan 20 277 [.ref 70, .int (xs (I + 1))] hp1 (some (.int x2), hp2)) (n2 : hp1.1 ≤ hp2.1) (K : zR (some (L, xs)) 20 4 ret zcL (1041, lv, []) hp2 r) : zR (some (L, xs)) 20 4 ret zcL (972, lv, []) hp r := by
  refine q_lr (k := 1) (i := 1) (q := (.aload_n 1, 1, 0, 0, .null)) rfl (fun _ => rfl) l1 ?_
  refine l_arg (pc := 973) (k := 1) rfl rfl rfl rfl rfl l0 l3 hi (by omega) (by decide) hL ?_
  refine r_call (ix := 0) (as := [.int (xs (I + 1))]) (rest := []) (rv := some (.int x1)) (hp' := hp1) (pc := 978) rfl (show zar 154 = (1, 10) by decide +kernel) rfl rfl rfl k1 (Nat.le_of_ble_eq_true rfl) z1 n1 ?_
  refine r_s (fr' := (982, lv, [])) (hp' := hp1) (q := (.pop, 1, 0, 0, .null)) rfl (fun _ => rfl) (Nat.le_refl _) ?_
  refine q_lr (k := 1) (i := 2) (q := (.aload_n 2, 1, 0, 0, .null)) rfl (fun _ => rfl) l2 ?_
  refine l_arg (pc := 983) (k := 1) rfl rfl rfl rfl rfl l0 l3 hi (by omega) (by decide) hL ?_
  refine r_call (ix := 70) (as := [.int (xs (I + 1))]) (rest := []) (rv := some (.int x2)) (hp' := hp2) (pc := 988) rfl (show zar 277 = (1, 11) by decide +kernel) rfl rfl rfl k2 (Nat.le_of_ble_eq_true rfl) z2 n2 ?_
  refine r_s (fr' := (992, lv, [])) (hp' := hp2) (q := (.pop, 1, 0, 0, .null)) rfl (fun _ => rfl) (Nat.le_refl _) ?_
  exact r_s (fr' := (1041, lv, [])) (hp' := hp2) (q := (.goto 49, 3, 1041, 0, .null)) rfl (fun _ => rfl) (Nat.le_refl _) K
set_option maxRecDepth 20000 in
theorem lt29 (l0 : zld lv 0 = some (.ref 1000)) (l1 : zld lv 1 = some (.ref 0)) (l2 : zld lv 2 = some (.ref 70)) (l3 : zld lv 3 = some (.int i)) (hi : i.toInt = (I : Int)) (h6 : I + 6 ≤ L) (hL : L ≤ 3072) (k1 : zKd 0 hp = some 10) (k2 : zKd 70 hp1 = some 11) (z1 : zCan 20 155 [.ref 0, .int (xs (I + 1))] hp (some (.int x1), hp1)) (n1 : hp.1 ≤ hp1.1) (z2 : zCan 20 278 [.ref 70, .int (xs (I + 1))] hp1 (some (.int x2), hp2)) (n2 : hp1.1 ≤ hp2.1) (K : zR (some (L, xs)) 20 4 ret zcL (1041, lv, []) hp2 r) : zR (some (L, xs)) 20 4 ret zcL (995, lv, []) hp r := by
  refine q_lr (k := 1) (i := 1) (q := (.aload_n 1, 1, 0, 0, .null)) rfl (fun _ => rfl) l1 ?_
  refine l_arg (pc := 996) (k := 1) rfl rfl rfl rfl rfl l0 l3 hi (by omega) (by decide) hL ?_
  refine r_call (ix := 0) (as := [.int (xs (I + 1))]) (rest := []) (rv := some (.int x1)) (hp' := hp1) (pc := 1001) rfl (show zar 155 = (1, 10) by decide +kernel) rfl rfl rfl k1 (Nat.le_of_ble_eq_true rfl) z1 n1 ?_
  refine r_s (fr' := (1005, lv, [])) (hp' := hp1) (q := (.pop, 1, 0, 0, .null)) rfl (fun _ => rfl) (Nat.le_refl _) ?_
  refine q_lr (k := 1) (i := 2) (q := (.aload_n 2, 1, 0, 0, .null)) rfl (fun _ => rfl) l2 ?_
  refine l_arg (pc := 1006) (k := 1) rfl rfl rfl rfl rfl l0 l3 hi (by omega) (by decide) hL ?_
  refine r_call (ix := 70) (as := [.int (xs (I + 1))]) (rest := []) (rv := some (.int x2)) (hp' := hp2) (pc := 1011) rfl (show zar 278 = (1, 11) by decide +kernel) rfl rfl rfl k2 (Nat.le_of_ble_eq_true rfl) z2 n2 ?_
  refine r_s (fr' := (1015, lv, [])) (hp' := hp2) (q := (.pop, 1, 0, 0, .null)) rfl (fun _ => rfl) (Nat.le_refl _) ?_
  exact r_s (fr' := (1041, lv, [])) (hp' := hp2) (q := (.goto 26, 3, 1041, 0, .null)) rfl (fun _ => rfl) (Nat.le_refl _) K
set_option maxRecDepth 20000 in
theorem lt30 (l0 : zld lv 0 = some (.ref 1000)) (l1 : zld lv 1 = some (.ref 0)) (l2 : zld lv 2 = some (.ref 70)) (l3 : zld lv 3 = some (.int i)) (hi : i.toInt = (I : Int)) (h6 : I + 6 ≤ L) (hL : L ≤ 3072) (k1 : zKd 0 hp = some 10) (k2 : zKd 70 hp1 = some 11) (z1 : zCan 20 156 [.ref 0, .int (xs (I + 1))] hp (some (.int x1), hp1)) (n1 : hp.1 ≤ hp1.1) (z2 : zCan 20 279 [.ref 70, .int (xs (I + 1))] hp1 (some (.int x2), hp2)) (n2 : hp1.1 ≤ hp2.1) (K : zR (some (L, xs)) 20 4 ret zcL (1041, lv, []) hp2 r) : zR (some (L, xs)) 20 4 ret zcL (1018, lv, []) hp r := by
  refine q_lr (k := 1) (i := 1) (q := (.aload_n 1, 1, 0, 0, .null)) rfl (fun _ => rfl) l1 ?_
  refine l_arg (pc := 1019) (k := 1) rfl rfl rfl rfl rfl l0 l3 hi (by omega) (by decide) hL ?_
  refine r_call (ix := 0) (as := [.int (xs (I + 1))]) (rest := []) (rv := some (.int x1)) (hp' := hp1) (pc := 1024) rfl (show zar 156 = (1, 10) by decide +kernel) rfl rfl rfl k1 (Nat.le_of_ble_eq_true rfl) z1 n1 ?_
  refine r_s (fr' := (1028, lv, [])) (hp' := hp1) (q := (.pop, 1, 0, 0, .null)) rfl (fun _ => rfl) (Nat.le_refl _) ?_
  refine q_lr (k := 1) (i := 2) (q := (.aload_n 2, 1, 0, 0, .null)) rfl (fun _ => rfl) l2 ?_
  refine l_arg (pc := 1029) (k := 1) rfl rfl rfl rfl rfl l0 l3 hi (by omega) (by decide) hL ?_
  refine r_call (ix := 70) (as := [.int (xs (I + 1))]) (rest := []) (rv := some (.int x2)) (hp' := hp2) (pc := 1034) rfl (show zar 279 = (1, 11) by decide +kernel) rfl rfl rfl k2 (Nat.le_of_ble_eq_true rfl) z2 n2 ?_
  refine r_s (fr' := (1038, lv, [])) (hp' := hp2) (q := (.pop, 1, 0, 0, .null)) rfl (fun _ => rfl) (Nat.le_refl _) ?_
  exact r_s (fr' := (1041, lv, [])) (hp' := hp2) (q := (.goto 3, 3, 1041, 0, .null)) rfl (fun _ => rfl) (Nat.le_refl _) K
end LTU
def lPs (Iv : zHp → Prop) : Prop := (∀ y1 y2 y3 y4 y5 : Int32, lP Iv 122 161 [.int y1, .int y2, .int y3, .int y4, .int y5] false) ∧ (∀ y1 y2 y3 y4 y5 : Int32, lP Iv 124 162 [.int y1] false) ∧ (∀ y1 y2 y3 y4 y5 : Int32, lP Iv 125 198 [] false) ∧ (∀ y1 y2 y3 y4 y5 : Int32, lP Iv 126 197 [] false) ∧ (∀ y1 y2 y3 y4 y5 : Int32, lP Iv 128 217 [.int y1, .int y2] false) ∧ (∀ y1 y2 y3 y4 y5 : Int32, lP Iv 129 218 [.int y1, .int y2] false) ∧ (∀ y1 y2 y3 y4 y5 : Int32, lP Iv 130 219 [.int y1, .int y2, .int y3] false) ∧ (∀ y1 y2 y3 y4 y5 : Int32, lP Iv 131 226 [.int y1, .int y2] false) ∧ (∀ y1 y2 y3 y4 y5 : Int32, lP Iv 132 227 [.int y1] true) ∧ (∀ y1 y2 y3 y4 y5 : Int32, lP Iv 133 228 [.int y1] false) ∧ (∀ y1 y2 y3 y4 y5 : Int32, lP Iv 134 230 [.int y1, .int y2] false) ∧ (∀ y1 y2 y3 y4 y5 : Int32, lP Iv 135 242 [] false) ∧ (∀ y1 y2 y3 y4 y5 : Int32, lP Iv 136 232 [.int y1, .int y2] false) ∧ (∀ y1 y2 y3 y4 y5 : Int32, lP Iv 137 234 [] false) ∧ (∀ y1 y2 y3 y4 y5 : Int32, lP Iv 138 221 [] false) ∧ (∀ y1 y2 y3 y4 y5 : Int32, lP Iv 139 248 [.int y1, .int y2] false) ∧ (∀ y1 y2 y3 y4 y5 : Int32, lP Iv 141 252 [.int y1, .int y2, .int (if y3 = 0 then 0 else 1), .int y4] false) ∧ (∀ y1 y2 y3 y4 y5 : Int32, lP Iv 142 257 [.int y1] false) ∧ (∀ y1 y2 y3 y4 y5 : Int32, lP Iv 143 258 [.int y1] false) ∧ (∀ y1 y2 y3 y4 y5 : Int32, lP Iv 144 261 [.int y1, .int y2] false) ∧ (∀ y1 y2 y3 y4 y5 : Int32, lP Iv 145 262 [.int y1] false) ∧ (∀ y1 y2 y3 y4 y5 : Int32, lP Iv 146 264 [.int y1] false) ∧ (∀ y1 y2 y3 y4 y5 : Int32, lP Iv 147 265 [.int y1] false) ∧ (∀ y1 y2 y3 y4 y5 : Int32, lP Iv 148 267 [.int y1, .int y2] false) ∧ (∀ y1 y2 y3 y4 y5 : Int32, lP Iv 149 269 [.int y1] false) ∧ (∀ y1 y2 y3 y4 y5 : Int32, lP Iv 150 272 [.int y1] false) ∧ (∀ y1 y2 y3 y4 y5 : Int32, lP Iv 152 273 [.int y1] false) ∧ (∀ y1 y2 y3 y4 y5 : Int32, lP Iv 153 276 [.int y1, .int y2, .int y3] false) ∧ (∀ y1 y2 y3 y4 y5 : Int32, lP Iv 154 277 [.int y1] false) ∧ (∀ y1 y2 y3 y4 y5 : Int32, lP Iv 155 278 [.int y1] false) ∧ (∀ y1 y2 y3 y4 y5 : Int32, lP Iv 156 279 [.int y1] false)
set_option maxRecDepth 20000 in
theorem lturn {Iv : zHp → Prop} {L : Nat} {xs : Nat → Int32} (hP : lPs Iv) {hp : zHp} {lv : List (Nat × Value)} {i : Int32} {I : Nat} (l0 : zld lv 0 = some (.ref 1000)) (l1 : zld lv 1 = some (.ref 0)) (l2 : zld lv 2 = some (.ref 70)) (l3 : zld lv 3 = some (.int i)) (hi : i.toInt = (I : Int)) (h6 : I + 6 ≤ L) (hL : L ≤ 3072) (hI : Iv hp) : ∃ hp2, Iv hp2 ∧ hp.1 ≤ hp2.1 ∧ ∀ r, zR (some (L, xs)) 20 4 ret zcL (1041, lv, []) hp2 r → zR (some (L, xs)) 20 4 ret zcL (33, lv, [.int (xs I &&& 31)]) hp r := by
  obtain ⟨p0, p1, p2, p3, p4, p5, p6, p7, p8, p9, p10, p11, p12, p13, p14, p15, p16, p17, p18, p19, p20, p21, p22, p23, p24, p25, p26, p27, p28, p29, p30⟩ := hP
  by_cases d0 : (xs I &&& 31 == 0) = true
  · obtain ⟨x1, x2, hp1, hp2, a1, a2, a3, a4, a5, a6, a7, a8⟩ := p0 (xs (I + 1)) (xs (I + 2)) (xs (I + 3)) (xs (I + 4)) (xs (I + 5)) hp hI
    exact ⟨hp2, a7, Nat.le_trans a4 a6, fun r K => q_sw (pc2 := 172) (q := (.tableswitch 1008 0 30 #[139, 202, 225, 238, 251, 284, 317, 360, 393, 416, 439, 472, 485, 518, 531, 544, 577, 646, 669, 692, 725, 748, 771, 794, 827, 850, 873, 896, 939, 962, 985], 139, 0, 0, .null)) d0 rfl (fun _ => rfl) (lt0 l0 l1 l2 l3 hi h6 hL a1 a2 a3 a4 a5 a6 K)⟩
  by_cases d1 : (xs I &&& 31 == 1) = true
  · obtain ⟨x1, x2, hp1, hp2, a1, a2, a3, a4, a5, a6, a7, a8⟩ := p1 (xs (I + 1)) (xs (I + 2)) (xs (I + 3)) (xs (I + 4)) (xs (I + 5)) hp hI
    exact ⟨hp2, a7, Nat.le_trans a4 a6, fun r K => q_sw (pc2 := 235) (q := (.tableswitch 1008 0 30 #[139, 202, 225, 238, 251, 284, 317, 360, 393, 416, 439, 472, 485, 518, 531, 544, 577, 646, 669, 692, 725, 748, 771, 794, 827, 850, 873, 896, 939, 962, 985], 139, 0, 0, .null)) d1 rfl (fun _ => rfl) (lt1 l0 l1 l2 l3 hi h6 hL a1 a2 a3 a4 a5 a6 K)⟩
  by_cases d2 : (xs I &&& 31 == 2) = true
  · obtain ⟨x1, x2, hp1, hp2, a1, a2, a3, a4, a5, a6, a7, a8⟩ := p2 (xs (I + 1)) (xs (I + 2)) (xs (I + 3)) (xs (I + 4)) (xs (I + 5)) hp hI
    exact ⟨hp2, a7, Nat.le_trans a4 a6, fun r K => q_sw (pc2 := 258) (q := (.tableswitch 1008 0 30 #[139, 202, 225, 238, 251, 284, 317, 360, 393, 416, 439, 472, 485, 518, 531, 544, 577, 646, 669, 692, 725, 748, 771, 794, 827, 850, 873, 896, 939, 962, 985], 139, 0, 0, .null)) d2 rfl (fun _ => rfl) (lt2 l0 l1 l2 l3 hi h6 hL a1 a2 a3 a4 a5 a6 K)⟩
  by_cases d3 : (xs I &&& 31 == 3) = true
  · obtain ⟨x1, x2, hp1, hp2, a1, a2, a3, a4, a5, a6, a7, a8⟩ := p3 (xs (I + 1)) (xs (I + 2)) (xs (I + 3)) (xs (I + 4)) (xs (I + 5)) hp hI
    exact ⟨hp2, a7, Nat.le_trans a4 a6, fun r K => q_sw (pc2 := 271) (q := (.tableswitch 1008 0 30 #[139, 202, 225, 238, 251, 284, 317, 360, 393, 416, 439, 472, 485, 518, 531, 544, 577, 646, 669, 692, 725, 748, 771, 794, 827, 850, 873, 896, 939, 962, 985], 139, 0, 0, .null)) d3 rfl (fun _ => rfl) (lt3 l0 l1 l2 l3 hi h6 hL a1 a2 a3 a4 a5 a6 K)⟩
  by_cases d4 : (xs I &&& 31 == 4) = true
  · obtain ⟨x1, x2, hp1, hp2, a1, a2, a3, a4, a5, a6, a7, a8⟩ := p4 (xs (I + 1)) (xs (I + 2)) (xs (I + 3)) (xs (I + 4)) (xs (I + 5)) hp hI
    exact ⟨hp2, a7, Nat.le_trans a4 a6, fun r K => q_sw (pc2 := 284) (q := (.tableswitch 1008 0 30 #[139, 202, 225, 238, 251, 284, 317, 360, 393, 416, 439, 472, 485, 518, 531, 544, 577, 646, 669, 692, 725, 748, 771, 794, 827, 850, 873, 896, 939, 962, 985], 139, 0, 0, .null)) d4 rfl (fun _ => rfl) (lt4 l0 l1 l2 l3 hi h6 hL a1 a2 a3 a4 a5 a6 K)⟩
  by_cases d5 : (xs I &&& 31 == 5) = true
  · obtain ⟨x1, x2, hp1, hp2, a1, a2, a3, a4, a5, a6, a7, a8⟩ := p5 (xs (I + 1)) (xs (I + 2)) (xs (I + 3)) (xs (I + 4)) (xs (I + 5)) hp hI
    exact ⟨hp2, a7, Nat.le_trans a4 a6, fun r K => q_sw (pc2 := 317) (q := (.tableswitch 1008 0 30 #[139, 202, 225, 238, 251, 284, 317, 360, 393, 416, 439, 472, 485, 518, 531, 544, 577, 646, 669, 692, 725, 748, 771, 794, 827, 850, 873, 896, 939, 962, 985], 139, 0, 0, .null)) d5 rfl (fun _ => rfl) (lt5 l0 l1 l2 l3 hi h6 hL a1 a2 a3 a4 a5 a6 K)⟩
  by_cases d6 : (xs I &&& 31 == 6) = true
  · obtain ⟨x1, x2, hp1, hp2, a1, a2, a3, a4, a5, a6, a7, a8⟩ := p6 (xs (I + 1)) (xs (I + 2)) (xs (I + 3)) (xs (I + 4)) (xs (I + 5)) hp hI
    exact ⟨hp2, a7, Nat.le_trans a4 a6, fun r K => q_sw (pc2 := 350) (q := (.tableswitch 1008 0 30 #[139, 202, 225, 238, 251, 284, 317, 360, 393, 416, 439, 472, 485, 518, 531, 544, 577, 646, 669, 692, 725, 748, 771, 794, 827, 850, 873, 896, 939, 962, 985], 139, 0, 0, .null)) d6 rfl (fun _ => rfl) (lt6 l0 l1 l2 l3 hi h6 hL a1 a2 a3 a4 a5 a6 K)⟩
  by_cases d7 : (xs I &&& 31 == 7) = true
  · obtain ⟨x1, x2, hp1, hp2, a1, a2, a3, a4, a5, a6, a7, a8⟩ := p7 (xs (I + 1)) (xs (I + 2)) (xs (I + 3)) (xs (I + 4)) (xs (I + 5)) hp hI
    exact ⟨hp2, a7, Nat.le_trans a4 a6, fun r K => q_sw (pc2 := 393) (q := (.tableswitch 1008 0 30 #[139, 202, 225, 238, 251, 284, 317, 360, 393, 416, 439, 472, 485, 518, 531, 544, 577, 646, 669, 692, 725, 748, 771, 794, 827, 850, 873, 896, 939, 962, 985], 139, 0, 0, .null)) d7 rfl (fun _ => rfl) (lt7 l0 l1 l2 l3 hi h6 hL a1 a2 a3 a4 a5 a6 K)⟩
  by_cases d8 : (xs I &&& 31 == 8) = true
  · obtain ⟨x1, x2, hp1, hp2, a1, a2, a3, a4, a5, a6, a7, a8⟩ := p8 (xs (I + 1)) (xs (I + 2)) (xs (I + 3)) (xs (I + 4)) (xs (I + 5)) hp hI
    exact ⟨hp2, a7, Nat.le_trans a4 a6, fun r K => q_sw (pc2 := 426) (q := (.tableswitch 1008 0 30 #[139, 202, 225, 238, 251, 284, 317, 360, 393, 416, 439, 472, 485, 518, 531, 544, 577, 646, 669, 692, 725, 748, 771, 794, 827, 850, 873, 896, 939, 962, 985], 139, 0, 0, .null)) d8 rfl (fun _ => rfl) (lt8 l0 l1 l2 l3 hi h6 hL a1 a2 a3 a4 a5 a6 (a8 rfl) K)⟩
  by_cases d9 : (xs I &&& 31 == 9) = true
  · obtain ⟨x1, x2, hp1, hp2, a1, a2, a3, a4, a5, a6, a7, a8⟩ := p9 (xs (I + 1)) (xs (I + 2)) (xs (I + 3)) (xs (I + 4)) (xs (I + 5)) hp hI
    exact ⟨hp2, a7, Nat.le_trans a4 a6, fun r K => q_sw (pc2 := 449) (q := (.tableswitch 1008 0 30 #[139, 202, 225, 238, 251, 284, 317, 360, 393, 416, 439, 472, 485, 518, 531, 544, 577, 646, 669, 692, 725, 748, 771, 794, 827, 850, 873, 896, 939, 962, 985], 139, 0, 0, .null)) d9 rfl (fun _ => rfl) (lt9 l0 l1 l2 l3 hi h6 hL a1 a2 a3 a4 a5 a6 K)⟩
  by_cases d10 : (xs I &&& 31 == 10) = true
  · obtain ⟨x1, x2, hp1, hp2, a1, a2, a3, a4, a5, a6, a7, a8⟩ := p10 (xs (I + 1)) (xs (I + 2)) (xs (I + 3)) (xs (I + 4)) (xs (I + 5)) hp hI
    exact ⟨hp2, a7, Nat.le_trans a4 a6, fun r K => q_sw (pc2 := 472) (q := (.tableswitch 1008 0 30 #[139, 202, 225, 238, 251, 284, 317, 360, 393, 416, 439, 472, 485, 518, 531, 544, 577, 646, 669, 692, 725, 748, 771, 794, 827, 850, 873, 896, 939, 962, 985], 139, 0, 0, .null)) d10 rfl (fun _ => rfl) (lt10 l0 l1 l2 l3 hi h6 hL a1 a2 a3 a4 a5 a6 K)⟩
  by_cases d11 : (xs I &&& 31 == 11) = true
  · obtain ⟨x1, x2, hp1, hp2, a1, a2, a3, a4, a5, a6, a7, a8⟩ := p11 (xs (I + 1)) (xs (I + 2)) (xs (I + 3)) (xs (I + 4)) (xs (I + 5)) hp hI
    exact ⟨hp2, a7, Nat.le_trans a4 a6, fun r K => q_sw (pc2 := 505) (q := (.tableswitch 1008 0 30 #[139, 202, 225, 238, 251, 284, 317, 360, 393, 416, 439, 472, 485, 518, 531, 544, 577, 646, 669, 692, 725, 748, 771, 794, 827, 850, 873, 896, 939, 962, 985], 139, 0, 0, .null)) d11 rfl (fun _ => rfl) (lt11 l0 l1 l2 l3 hi h6 hL a1 a2 a3 a4 a5 a6 K)⟩
  by_cases d12 : (xs I &&& 31 == 12) = true
  · obtain ⟨x1, x2, hp1, hp2, a1, a2, a3, a4, a5, a6, a7, a8⟩ := p12 (xs (I + 1)) (xs (I + 2)) (xs (I + 3)) (xs (I + 4)) (xs (I + 5)) hp hI
    exact ⟨hp2, a7, Nat.le_trans a4 a6, fun r K => q_sw (pc2 := 518) (q := (.tableswitch 1008 0 30 #[139, 202, 225, 238, 251, 284, 317, 360, 393, 416, 439, 472, 485, 518, 531, 544, 577, 646, 669, 692, 725, 748, 771, 794, 827, 850, 873, 896, 939, 962, 985], 139, 0, 0, .null)) d12 rfl (fun _ => rfl) (lt12 l0 l1 l2 l3 hi h6 hL a1 a2 a3 a4 a5 a6 K)⟩
  by_cases d13 : (xs I &&& 31 == 13) = true
  · obtain ⟨x1, x2, hp1, hp2, a1, a2, a3, a4, a5, a6, a7, a8⟩ := p13 (xs (I + 1)) (xs (I + 2)) (xs (I + 3)) (xs (I + 4)) (xs (I + 5)) hp hI
    exact ⟨hp2, a7, Nat.le_trans a4 a6, fun r K => q_sw (pc2 := 551) (q := (.tableswitch 1008 0 30 #[139, 202, 225, 238, 251, 284, 317, 360, 393, 416, 439, 472, 485, 518, 531, 544, 577, 646, 669, 692, 725, 748, 771, 794, 827, 850, 873, 896, 939, 962, 985], 139, 0, 0, .null)) d13 rfl (fun _ => rfl) (lt13 l0 l1 l2 l3 hi h6 hL a1 a2 a3 a4 a5 a6 K)⟩
  by_cases d14 : (xs I &&& 31 == 14) = true
  · obtain ⟨x1, x2, hp1, hp2, a1, a2, a3, a4, a5, a6, a7, a8⟩ := p14 (xs (I + 1)) (xs (I + 2)) (xs (I + 3)) (xs (I + 4)) (xs (I + 5)) hp hI
    exact ⟨hp2, a7, Nat.le_trans a4 a6, fun r K => q_sw (pc2 := 564) (q := (.tableswitch 1008 0 30 #[139, 202, 225, 238, 251, 284, 317, 360, 393, 416, 439, 472, 485, 518, 531, 544, 577, 646, 669, 692, 725, 748, 771, 794, 827, 850, 873, 896, 939, 962, 985], 139, 0, 0, .null)) d14 rfl (fun _ => rfl) (lt14 l0 l1 l2 l3 hi h6 hL a1 a2 a3 a4 a5 a6 K)⟩
  by_cases d15 : (xs I &&& 31 == 15) = true
  · obtain ⟨x1, x2, hp1, hp2, a1, a2, a3, a4, a5, a6, a7, a8⟩ := p15 (xs (I + 1)) (xs (I + 2)) (xs (I + 3)) (xs (I + 4)) (xs (I + 5)) hp hI
    exact ⟨hp2, a7, Nat.le_trans a4 a6, fun r K => q_sw (pc2 := 577) (q := (.tableswitch 1008 0 30 #[139, 202, 225, 238, 251, 284, 317, 360, 393, 416, 439, 472, 485, 518, 531, 544, 577, 646, 669, 692, 725, 748, 771, 794, 827, 850, 873, 896, 939, 962, 985], 139, 0, 0, .null)) d15 rfl (fun _ => rfl) (lt15 l0 l1 l2 l3 hi h6 hL a1 a2 a3 a4 a5 a6 K)⟩
  by_cases d16 : (xs I &&& 31 == 16) = true
  · obtain ⟨x1, x2, hp1, hp2, a1, a2, a3, a4, a5, a6, a7, a8⟩ := p16 (xs (I + 1)) (xs (I + 2)) (xs (I + 3)) (xs (I + 4)) (xs (I + 5)) hp hI
    exact ⟨hp2, a7, Nat.le_trans a4 a6, fun r K => q_sw (pc2 := 610) (q := (.tableswitch 1008 0 30 #[139, 202, 225, 238, 251, 284, 317, 360, 393, 416, 439, 472, 485, 518, 531, 544, 577, 646, 669, 692, 725, 748, 771, 794, 827, 850, 873, 896, 939, 962, 985], 139, 0, 0, .null)) d16 rfl (fun _ => rfl) (lt16 l0 l1 l2 l3 hi h6 hL a1 a2 a3 a4 a5 a6 K)⟩
  by_cases d17 : (xs I &&& 31 == 17) = true
  · obtain ⟨x1, x2, hp1, hp2, a1, a2, a3, a4, a5, a6, a7, a8⟩ := p17 (xs (I + 1)) (xs (I + 2)) (xs (I + 3)) (xs (I + 4)) (xs (I + 5)) hp hI
    exact ⟨hp2, a7, Nat.le_trans a4 a6, fun r K => q_sw (pc2 := 679) (q := (.tableswitch 1008 0 30 #[139, 202, 225, 238, 251, 284, 317, 360, 393, 416, 439, 472, 485, 518, 531, 544, 577, 646, 669, 692, 725, 748, 771, 794, 827, 850, 873, 896, 939, 962, 985], 139, 0, 0, .null)) d17 rfl (fun _ => rfl) (lt17 l0 l1 l2 l3 hi h6 hL a1 a2 a3 a4 a5 a6 K)⟩
  by_cases d18 : (xs I &&& 31 == 18) = true
  · obtain ⟨x1, x2, hp1, hp2, a1, a2, a3, a4, a5, a6, a7, a8⟩ := p18 (xs (I + 1)) (xs (I + 2)) (xs (I + 3)) (xs (I + 4)) (xs (I + 5)) hp hI
    exact ⟨hp2, a7, Nat.le_trans a4 a6, fun r K => q_sw (pc2 := 702) (q := (.tableswitch 1008 0 30 #[139, 202, 225, 238, 251, 284, 317, 360, 393, 416, 439, 472, 485, 518, 531, 544, 577, 646, 669, 692, 725, 748, 771, 794, 827, 850, 873, 896, 939, 962, 985], 139, 0, 0, .null)) d18 rfl (fun _ => rfl) (lt18 l0 l1 l2 l3 hi h6 hL a1 a2 a3 a4 a5 a6 K)⟩
  by_cases d19 : (xs I &&& 31 == 19) = true
  · obtain ⟨x1, x2, hp1, hp2, a1, a2, a3, a4, a5, a6, a7, a8⟩ := p19 (xs (I + 1)) (xs (I + 2)) (xs (I + 3)) (xs (I + 4)) (xs (I + 5)) hp hI
    exact ⟨hp2, a7, Nat.le_trans a4 a6, fun r K => q_sw (pc2 := 725) (q := (.tableswitch 1008 0 30 #[139, 202, 225, 238, 251, 284, 317, 360, 393, 416, 439, 472, 485, 518, 531, 544, 577, 646, 669, 692, 725, 748, 771, 794, 827, 850, 873, 896, 939, 962, 985], 139, 0, 0, .null)) d19 rfl (fun _ => rfl) (lt19 l0 l1 l2 l3 hi h6 hL a1 a2 a3 a4 a5 a6 K)⟩
  by_cases d20 : (xs I &&& 31 == 20) = true
  · obtain ⟨x1, x2, hp1, hp2, a1, a2, a3, a4, a5, a6, a7, a8⟩ := p20 (xs (I + 1)) (xs (I + 2)) (xs (I + 3)) (xs (I + 4)) (xs (I + 5)) hp hI
    exact ⟨hp2, a7, Nat.le_trans a4 a6, fun r K => q_sw (pc2 := 758) (q := (.tableswitch 1008 0 30 #[139, 202, 225, 238, 251, 284, 317, 360, 393, 416, 439, 472, 485, 518, 531, 544, 577, 646, 669, 692, 725, 748, 771, 794, 827, 850, 873, 896, 939, 962, 985], 139, 0, 0, .null)) d20 rfl (fun _ => rfl) (lt20 l0 l1 l2 l3 hi h6 hL a1 a2 a3 a4 a5 a6 K)⟩
  by_cases d21 : (xs I &&& 31 == 21) = true
  · obtain ⟨x1, x2, hp1, hp2, a1, a2, a3, a4, a5, a6, a7, a8⟩ := p21 (xs (I + 1)) (xs (I + 2)) (xs (I + 3)) (xs (I + 4)) (xs (I + 5)) hp hI
    exact ⟨hp2, a7, Nat.le_trans a4 a6, fun r K => q_sw (pc2 := 781) (q := (.tableswitch 1008 0 30 #[139, 202, 225, 238, 251, 284, 317, 360, 393, 416, 439, 472, 485, 518, 531, 544, 577, 646, 669, 692, 725, 748, 771, 794, 827, 850, 873, 896, 939, 962, 985], 139, 0, 0, .null)) d21 rfl (fun _ => rfl) (lt21 l0 l1 l2 l3 hi h6 hL a1 a2 a3 a4 a5 a6 K)⟩
  by_cases d22 : (xs I &&& 31 == 22) = true
  · obtain ⟨x1, x2, hp1, hp2, a1, a2, a3, a4, a5, a6, a7, a8⟩ := p22 (xs (I + 1)) (xs (I + 2)) (xs (I + 3)) (xs (I + 4)) (xs (I + 5)) hp hI
    exact ⟨hp2, a7, Nat.le_trans a4 a6, fun r K => q_sw (pc2 := 804) (q := (.tableswitch 1008 0 30 #[139, 202, 225, 238, 251, 284, 317, 360, 393, 416, 439, 472, 485, 518, 531, 544, 577, 646, 669, 692, 725, 748, 771, 794, 827, 850, 873, 896, 939, 962, 985], 139, 0, 0, .null)) d22 rfl (fun _ => rfl) (lt22 l0 l1 l2 l3 hi h6 hL a1 a2 a3 a4 a5 a6 K)⟩
  by_cases d23 : (xs I &&& 31 == 23) = true
  · obtain ⟨x1, x2, hp1, hp2, a1, a2, a3, a4, a5, a6, a7, a8⟩ := p23 (xs (I + 1)) (xs (I + 2)) (xs (I + 3)) (xs (I + 4)) (xs (I + 5)) hp hI
    exact ⟨hp2, a7, Nat.le_trans a4 a6, fun r K => q_sw (pc2 := 827) (q := (.tableswitch 1008 0 30 #[139, 202, 225, 238, 251, 284, 317, 360, 393, 416, 439, 472, 485, 518, 531, 544, 577, 646, 669, 692, 725, 748, 771, 794, 827, 850, 873, 896, 939, 962, 985], 139, 0, 0, .null)) d23 rfl (fun _ => rfl) (lt23 l0 l1 l2 l3 hi h6 hL a1 a2 a3 a4 a5 a6 K)⟩
  by_cases d24 : (xs I &&& 31 == 24) = true
  · obtain ⟨x1, x2, hp1, hp2, a1, a2, a3, a4, a5, a6, a7, a8⟩ := p24 (xs (I + 1)) (xs (I + 2)) (xs (I + 3)) (xs (I + 4)) (xs (I + 5)) hp hI
    exact ⟨hp2, a7, Nat.le_trans a4 a6, fun r K => q_sw (pc2 := 860) (q := (.tableswitch 1008 0 30 #[139, 202, 225, 238, 251, 284, 317, 360, 393, 416, 439, 472, 485, 518, 531, 544, 577, 646, 669, 692, 725, 748, 771, 794, 827, 850, 873, 896, 939, 962, 985], 139, 0, 0, .null)) d24 rfl (fun _ => rfl) (lt24 l0 l1 l2 l3 hi h6 hL a1 a2 a3 a4 a5 a6 K)⟩
  by_cases d25 : (xs I &&& 31 == 25) = true
  · obtain ⟨x1, x2, hp1, hp2, a1, a2, a3, a4, a5, a6, a7, a8⟩ := p25 (xs (I + 1)) (xs (I + 2)) (xs (I + 3)) (xs (I + 4)) (xs (I + 5)) hp hI
    exact ⟨hp2, a7, Nat.le_trans a4 a6, fun r K => q_sw (pc2 := 883) (q := (.tableswitch 1008 0 30 #[139, 202, 225, 238, 251, 284, 317, 360, 393, 416, 439, 472, 485, 518, 531, 544, 577, 646, 669, 692, 725, 748, 771, 794, 827, 850, 873, 896, 939, 962, 985], 139, 0, 0, .null)) d25 rfl (fun _ => rfl) (lt25 l0 l1 l2 l3 hi h6 hL a1 a2 a3 a4 a5 a6 K)⟩
  by_cases d26 : (xs I &&& 31 == 26) = true
  · obtain ⟨x1, x2, hp1, hp2, a1, a2, a3, a4, a5, a6, a7, a8⟩ := p26 (xs (I + 1)) (xs (I + 2)) (xs (I + 3)) (xs (I + 4)) (xs (I + 5)) hp hI
    exact ⟨hp2, a7, Nat.le_trans a4 a6, fun r K => q_sw (pc2 := 906) (q := (.tableswitch 1008 0 30 #[139, 202, 225, 238, 251, 284, 317, 360, 393, 416, 439, 472, 485, 518, 531, 544, 577, 646, 669, 692, 725, 748, 771, 794, 827, 850, 873, 896, 939, 962, 985], 139, 0, 0, .null)) d26 rfl (fun _ => rfl) (lt26 l0 l1 l2 l3 hi h6 hL a1 a2 a3 a4 a5 a6 K)⟩
  by_cases d27 : (xs I &&& 31 == 27) = true
  · obtain ⟨x1, x2, hp1, hp2, a1, a2, a3, a4, a5, a6, a7, a8⟩ := p27 (xs (I + 1)) (xs (I + 2)) (xs (I + 3)) (xs (I + 4)) (xs (I + 5)) hp hI
    exact ⟨hp2, a7, Nat.le_trans a4 a6, fun r K => q_sw (pc2 := 929) (q := (.tableswitch 1008 0 30 #[139, 202, 225, 238, 251, 284, 317, 360, 393, 416, 439, 472, 485, 518, 531, 544, 577, 646, 669, 692, 725, 748, 771, 794, 827, 850, 873, 896, 939, 962, 985], 139, 0, 0, .null)) d27 rfl (fun _ => rfl) (lt27 l0 l1 l2 l3 hi h6 hL a1 a2 a3 a4 a5 a6 K)⟩
  by_cases d28 : (xs I &&& 31 == 28) = true
  · obtain ⟨x1, x2, hp1, hp2, a1, a2, a3, a4, a5, a6, a7, a8⟩ := p28 (xs (I + 1)) (xs (I + 2)) (xs (I + 3)) (xs (I + 4)) (xs (I + 5)) hp hI
    exact ⟨hp2, a7, Nat.le_trans a4 a6, fun r K => q_sw (pc2 := 972) (q := (.tableswitch 1008 0 30 #[139, 202, 225, 238, 251, 284, 317, 360, 393, 416, 439, 472, 485, 518, 531, 544, 577, 646, 669, 692, 725, 748, 771, 794, 827, 850, 873, 896, 939, 962, 985], 139, 0, 0, .null)) d28 rfl (fun _ => rfl) (lt28 l0 l1 l2 l3 hi h6 hL a1 a2 a3 a4 a5 a6 K)⟩
  by_cases d29 : (xs I &&& 31 == 29) = true
  · obtain ⟨x1, x2, hp1, hp2, a1, a2, a3, a4, a5, a6, a7, a8⟩ := p29 (xs (I + 1)) (xs (I + 2)) (xs (I + 3)) (xs (I + 4)) (xs (I + 5)) hp hI
    exact ⟨hp2, a7, Nat.le_trans a4 a6, fun r K => q_sw (pc2 := 995) (q := (.tableswitch 1008 0 30 #[139, 202, 225, 238, 251, 284, 317, 360, 393, 416, 439, 472, 485, 518, 531, 544, 577, 646, 669, 692, 725, 748, 771, 794, 827, 850, 873, 896, 939, 962, 985], 139, 0, 0, .null)) d29 rfl (fun _ => rfl) (lt29 l0 l1 l2 l3 hi h6 hL a1 a2 a3 a4 a5 a6 K)⟩
  by_cases d30 : (xs I &&& 31 == 30) = true
  · obtain ⟨x1, x2, hp1, hp2, a1, a2, a3, a4, a5, a6, a7, a8⟩ := p30 (xs (I + 1)) (xs (I + 2)) (xs (I + 3)) (xs (I + 4)) (xs (I + 5)) hp hI
    exact ⟨hp2, a7, Nat.le_trans a4 a6, fun r K => q_sw (pc2 := 1018) (q := (.tableswitch 1008 0 30 #[139, 202, 225, 238, 251, 284, 317, 360, 393, 416, 439, 472, 485, 518, 531, 544, 577, 646, 669, 692, 725, 748, 771, 794, 827, 850, 873, 896, 939, 962, 985], 139, 0, 0, .null)) d30 rfl (fun _ => rfl) (lt30 l0 l1 l2 l3 hi h6 hL a1 a2 a3 a4 a5 a6 K)⟩
  have b31 : (xs I &&& 31).toInt < 0 ∨ 30 < (xs I &&& 31).toInt := by
    have z0 := xne (z := 0) rfl d0
    have z1 := xne (z := 1) rfl d1
    have z2 := xne (z := 2) rfl d2
    have z3 := xne (z := 3) rfl d3
    have z4 := xne (z := 4) rfl d4
    have z5 := xne (z := 5) rfl d5
    have z6 := xne (z := 6) rfl d6
    have z7 := xne (z := 7) rfl d7
    have z8 := xne (z := 8) rfl d8
    have z9 := xne (z := 9) rfl d9
    have z10 := xne (z := 10) rfl d10
    have z11 := xne (z := 11) rfl d11
    have z12 := xne (z := 12) rfl d12
    have z13 := xne (z := 13) rfl d13
    have z14 := xne (z := 14) rfl d14
    have z15 := xne (z := 15) rfl d15
    have z16 := xne (z := 16) rfl d16
    have z17 := xne (z := 17) rfl d17
    have z18 := xne (z := 18) rfl d18
    have z19 := xne (z := 19) rfl d19
    have z20 := xne (z := 20) rfl d20
    have z21 := xne (z := 21) rfl d21
    have z22 := xne (z := 22) rfl d22
    have z23 := xne (z := 23) rfl d23
    have z24 := xne (z := 24) rfl d24
    have z25 := xne (z := 25) rfl d25
    have z26 := xne (z := 26) rfl d26
    have z27 := xne (z := 27) rfl d27
    have z28 := xne (z := 28) rfl d28
    have z29 := xne (z := 29) rfl d29
    have z30 := xne (z := 30) rfl d30
    omega
  exact ⟨hp, hI, Nat.le_refl _, fun r K => q_td (pc2 := 1041) (q := (.tableswitch 1008 0 30 #[139, 202, 225, 238, 251, 284, 317, 360, 393, 416, 439, 472, 485, 518, 531, 544, 577, 646, 669, 692, 725, 748, 771, 794, 827, 850, 873, 896, 939, 962, 985], 139, 0, 0, .null)) (dflt := 1008) (lo := 0) (hi := 30) (offs := #[139, 202, 225, 238, 251, 284, 317, 360, 393, 416, 439, 472, 485, 518, 531, 544, 577, 646, 669, 692, 725, 748, 771, 794, 827, 850, 873, 896, 939, 962, 985]) b31 rfl (fun _ => rfl) rfl K⟩
set_option maxRecDepth 20000 in
theorem lloop {Iv : zHp → Prop} {L : Nat} {xs : Nat → Int32} (hP : lPs Iv) (hN : ∀ hp, Iv hp → hp.1 ≤ 1000) (hL : L ≤ 3072) : ∀ (k : Nat) {hp : zHp} {lv : List (Nat × Value)} {i : Int32} {I : Nat}, zld lv 0 = some (.ref 1000) → zld lv 1 = some (.ref 0) → zld lv 2 = some (.ref 70) → zld lv 3 = some (.int i) → i.toInt = (I : Int) → I ≤ L → L < I + k → Iv hp → ∃ z : zHp, zR (some (L, xs)) 20 4 ret zcL (18, lv, []) hp (some (.int 1), z) ∧ z.1 ≤ 1000
  | 0, hp, lv, i, I, l0, l1, l2, l3, hi, h1, h2, hI => by omega
  | k + 1, hp, lv, i, I, l0, l1, l2, l3, hi, h1, h2, hI => by
    have e6 : (Int32.ofNat L - 6).toInt = (L : Int) - 6 := (xs1 (by rw [xI (by omega)]; show _ ≤ _ - (6 : Int); omega) (by rw [xI (by omega)]; show _ - (6 : Int) ≤ _; omega)).trans (by rw [xI (by omega)]; rfl)
    have head : ∀ {r : zRe}, (zcmp .gt i (Int32.ofNat L - 6) = true → zR (some (L, xs)) 20 4 ret zcL (1047, lv, []) hp r) → (zcmp .gt i (Int32.ofNat L - 6) = false → zR (some (L, xs)) 20 4 ret zcL (27, lv, []) hp r) → zR (some (L, xs)) 20 4 ret zcL (18, lv, []) hp r := by
      intro r K1 K2
      refine q_li (k := 1) (i := 3) (q := (.iload_n 3, 1, 0, 0, .null)) rfl (fun _ => rfl) l3 ?_
      refine q_lr (k := 1) (i := 0) (x := 1000) (q := (.aload_n 0, 1, 0, 0, .null)) rfl (fun _ => rfl) l0 ?_
      refine r_s (fr' := (21, lv, [.int (Int32.ofNat L), .int i])) (hp' := hp) (q := (.arraylength, 1, 0, 0, .null)) rfl (fun call => ?_) (Nat.le_refl _) ?_
      · show zAlen ztb (some (L, xs)) (20, lv, [.ref 1000, .int i]) hp = _
        unfold zAlen
        dsimp only
        rw [if_neg (by decide)]
        have e : ztb (some (L, xs)) (1000 - zSC) = some (0, L, xs) := rfl
        rw [e]
        rfl
      refine r_s (fr' := (23, lv, [.int 6, .int (Int32.ofNat L), .int i])) (hp' := hp) (q := (.bipush 6, 2, 0, 0, .null)) rfl (fun _ => rfl) (Nat.le_refl _) ?_
      refine r_s (fr' := (24, lv, [.int (Int32.ofNat L - 6), .int i])) (hp' := hp) (q := (.isub, 1, 0, 0, .null)) rfl (fun _ => rfl) (Nat.le_refl _) ?_
      exact r_ifc (len := 3) (a := 1047) (b := 0) (v0 := .null) (cn := .gt) (off := 1023) rfl K1 K2
    by_cases c : zcmp .gt i (Int32.ofNat L - 6) = true
    · refine ⟨hp, head (fun _ => ?_) (fun c2 => absurd c (by rw [c2]; decide)), hN hp hI⟩
      refine r_s (fr' := (1048, lv, [.int 1])) (hp' := hp) (q := (.iconst 1, 1, 0, 0, .null)) rfl (fun _ => rfl) (Nat.le_refl _) ?_
      exact q_ri (ty := .boolean) (q := (.ireturn, 1, 0, 0, .null)) rfl (fun _ => rfl) rfl rfl
    · have c0 : zcmp .gt i (Int32.ofNat L - 6) = false := by simpa using c
      have c3 : ¬ (Int32.ofNat L - 6).toInt < i.toInt := zf c0
      have h6 : I + 6 ≤ L := by omega
      obtain ⟨hp2, i2, -, T⟩ := lturn (xs := xs) hP l0 l1 l2 l3 hi h6 hL hI
      have m0 : zld (zs1 lv 3 (.int (i + Int32.ofInt 6))) 0 = some (.ref 1000) := x_o1 l0 rfl rfl
      have m1 : zld (zs1 lv 3 (.int (i + Int32.ofInt 6))) 1 = some (.ref 0) := x_o1 l1 rfl rfl
      have m2 : zld (zs1 lv 3 (.int (i + Int32.ofInt 6))) 2 = some (.ref 70) := x_o1 l2 rfl rfl
      have m3 : zld (zs1 lv 3 (.int (i + Int32.ofInt 6))) 3 = some (.int (i + Int32.ofInt 6)) := zs1_ld _ _ _
      have e7 : (i + Int32.ofInt 6).toInt = ((I + 6 : Nat) : Int) := (xa1 (by show _ ≤ _ + (6 : Int); omega) (by show _ + (6 : Int) ≤ _; omega)).trans (by rw [hi]; rfl)
      obtain ⟨z, z1, z2⟩ := lloop hP hN hL k m0 m1 m2 m3 e7 h6 (by omega) i2
      refine ⟨z, head (fun c2 => absurd c2 c) (fun _ => ?_), z2⟩
      refine q_lr (k := 1) (i := 0) (x := 1000) (q := (.aload_n 0, 1, 0, 0, .null)) rfl (fun _ => rfl) l0 ?_
      refine q_li (k := 1) (i := 3) (q := (.iload_n 3, 1, 0, 0, .null)) rfl (fun _ => rfl) l3 ?_
      refine q_sil (i := 1000) (n := L) (f := xs) (pc := 29) (len := 1) (a := 0) (b := 0) (v0 := .null) rfl (by decide) rfl (xib_t (by omega) (by omega)) ?_
      rw [show i.toNatClampNeg = I by show i.toInt.toNat = I; omega]
      refine r_s (fr' := (32, lv, [.int 31, .int (xs I)])) (hp' := hp) (q := (.bipush 31, 2, 0, 0, .null)) rfl (fun _ => rfl) (Nat.le_refl _) ?_
      refine r_s (fr' := (33, lv, [.int (xs I &&& 31)])) (hp' := hp) (q := (.iand, 1, 0, 0, .null)) rfl (fun _ => rfl) (Nat.le_refl _) ?_
      refine T _ ?_
      refine q_inc (i := 3) (n := 6) (q := (.iinc 3 6, 3, 0, 0, .null)) rfl (fun _ => rfl) l3 (by decide) ?_
      exact r_s (fr' := (18, zs1 lv 3 (.int (i + Int32.ofInt 6)), [])) (hp' := hp2) (q := (.goto (-1026), 3, 18, 0, .null)) rfl (fun _ => rfl) (Nat.le_refl _) z1
/-- the law answers 1 -/
theorem lLaw {Iv : zHp → Prop} (hP : lPs Iv) (hN : ∀ hp, Iv hp → hp.1 ≤ 1000) (h0 : Iv hpC) (L : Nat) (hL : L ≤ 3072) (xs : Nat → Int32) : ∃ (f1 f : Nat) (hpF : zHp), zlaw f1 f L xs = some (some (.int 1), hpF) ∧ hpF.1 ≤ 2000 := by
  obtain ⟨z, z1, z2⟩ := lloop (xs := xs) hP hN hL (L + 1) (lv := [(3, .int 0), (2, .ref 70), (1, .ref 0), (0, .ref 1000)]) (i := 0) (I := 0) rfl rfl rfl rfl rfl (Nat.zero_le _) (by omega) h0
  obtain ⟨n0, f0, K⟩ := r_N (ev := some (L, xs)) (d := 20) (nL := 4) (rt := ret) (cd := zcL) (r := (some (.int 1), z)) 10 zpre_eq z1
  exact ⟨f0, n0, z, K f0 n0 (Nat.le_refl _) (Nat.le_refl _), by omega⟩
