/-! came: by which houses. -/
section PCAM
variable {s : Nat → Int32} {m : xS} {F : Nat}
/-- is a code a row by which the tool can have come -/
def cmc (s : Nat → Int32) (o h N n c : Nat) : Bool := dgt N n c (n - 1) == h && (nodp 0 (dg N n c) && (!((dg N n c).any (· == o)) && trs s o (dg N n c)))
def cmp (s : Nat → Int32) (o h : Nat) (l : List Nat) : Bool := rend o l == h && rok s o (2 ^ o ||| 2 ^ o) l
theorem cmc_R {o h N n c : Nat} (n1 : 1 ≤ n) : cmc s o h N n c = cmp s o h (dg N n c) := by
  have e0 : rend o (dg N n c) = dgt N n c (n - 1) := by
    rw [rend_g (by intro z; have := dg_len (N := N) (n := n) (c := c); rw [z] at this; simp at this; omega), dg_len, dg_getD (by omega)]
  have e1 : nodp (2 ^ o ||| 2 ^ o) (dg N n c) = (nodp 0 (dg N n c) && !((dg N n c).any (· == o))) := by
    have z := nodp_c (l := dg N n c) (b := 0) (c := 2 ^ o ||| 2 ^ o)
    rw [Nat.zero_or] at z
    rw [z, all_ao, Bool.and_self]
  unfold cmc cmp rok
  rw [e0, e1]
  cases dgt N n c (n - 1) == h <;> cases nodp 0 (dg N n c) <;> cases (dg N n c).any (· == o) <;> cases trs s o (dg N n c) <;> rfl
/-- what the reference holds of the rows that it has found -/
def stR (m : xS) (o w : Nat) (L : List (List Nat)) : Prop := m.1 70 32 = Int32.ofNat L.length ∧ (m.1 70 33 = Int32.ofNat (lns o w L 0) ∧ lns o w L 0 < 64) ∧ m.1 70 34 = match L with
  | [] => -2
  | r :: _ => Int32.ofNat (len1 o w r)
theorem stR_a {o w x : Nat} {r : List Nat} {L : List (List Nat)} {m2 : xS} (S : stR m o w L) (w1 : 1 ≤ w) (hx : x < 6) (ex : x = len1 o w r) (hl : L.length < 1000000) (h2 : m2.1 70 34 = if L = [] then Int32.ofNat x else m.1 70 34) (h3 : m2.1 70 33 = m.1 70 33) (h4 : m2.1 70 32 = m.1 70 32) : stR (xu (xu m2 70 33 (m2.1 70 33 ||| (1 <<< (Int32.ofNat x &&& 31)))) 70 32 (m2.1 70 32 + 1)) o w (L ++ [r]) := by
  obtain ⟨s1, ⟨s2, s3⟩, s4⟩ := S
  obtain ⟨b1, b2⟩ := bor s3 hx
  refine ⟨?_, ⟨?_, ?_⟩, ?_⟩
  · rw [xu_s, h4, s1, List.length_append]
    exact xadd (a := L.length) (b := 1) (by omega)
  · rw [xu_o (by decide), xu_s, h3, s2, b1, lns_a, if_pos (by omega), ex]
  · rw [lns_a, if_pos (by omega), ← ex]
    exact b2
  · rw [xu_o (by decide), xu_o (by decide), h2]
    cases L with
    | nil =>
      rw [if_pos rfl]
      show Int32.ofNat x = Int32.ofNat (len1 o w r)
      rw [ex]
    | cons a L =>
      rw [if_neg (by intro z; cases z)]
      exact s4
theorem r266_18 (hF : 500 ≤ F) {t w o h N : Nat} (t6 : t < 6) (eo : s (10 + 6 * t) = Int32.ofNat o) (eh : s (10 + 6 * t + 3) = Int32.ofNat h) (eN : s 0 = Int32.ofNat N) (N1 : 1 ≤ N) (hN : N ≤ 6) (ho : o < N) (hh : h < N) (w1 : 1 ≤ w) (wN : w < N) : ∀ (f : Nat) {m : xS} {c : Nat}, m.1 80 = s → stR m o w (((List.range c).map (dg N w)).filter (cmp s o h)) → c ≤ N ^ w → N ^ w - c < f → ∃ m', D266_18 F f (Int32.ofNat t) (Int32.ofNat w) (Int32.ofNat c) m = some ((), m') ∧ stR m' o w ((rws N w).filter (cmp s o h)) := by
  have eNI := nJ (n := N) (by omega)
  have ewI := nJ (n := w) (by omega)
  have bb := p6b (N := N) (k := w) (by omega) (by omega)
  have ePI := xI (a := N ^ w) (by omega)
  have wm : Int32.ofNat w - 1 = Int32.ofNat (w - 1) := xsub (a := w) (b := 1) (by omega) (by omega)
  intro f
  induction f with
  | zero => intro m c _ _ _ l; omega
  | succ f ih =>
    intro m c es S hc l
    have ec := xI (a := c) (by omega)
    unfold D266_18
    rw [es, eN]
    have e0 : m.1 80 0 = Int32.ofNat N := by rw [es]; exact eN
    have g0 : zcmp .ge (Int32.ofNat w) (Int32.ofNat N) = false := zc.trans (decide_eq_false (by omega))
    have r5 := r235 (F := F) (m := m) (N := N) (k := w) (v0 := Int32.ofNat N) (v1 := Int32.ofNat w) (by omega) rfl rfl (by omega) (by omega) (by omega)
    by_cases q : N ^ w ≤ c
    · have e : c = N ^ w := by omega
      rw [e, rws_c] at S
      exact ⟨m, oF g0 (ob r5 (oT (zc.trans (decide_eq_true (by dsimp only; omega))) rfl)), S⟩
    · have g1 : zcmp .ge (Int32.ofNat c) (Int32.ofNat (N ^ w)) = false := zc.trans (decide_eq_false (by omega))
      have eL : ((List.range (c + 1)).map (dg N w)).filter (cmp s o h) = ((List.range c).map (dg N w)).filter (cmp s o h) ++ (if cmp s o h (dg N w c) = true then [dg N w c] else []) := by
        rw [List.range_succ, List.map_append, List.filter_append]
        congr 1
        show [dg N w c].filter (cmp s o h) = _
        rw [List.filter_cons]
        rfl
      have len : (((List.range c).map (dg N w)).filter (cmp s o h)).length ≤ c := Nat.le_trans (List.length_filter_le _ _) (by rw [List.length_map, List.length_range]; exact Nat.le_refl _)
      have go : ∀ {m2 : xS} {v4 : Int32}, m2.1 80 = s → stR m2 o w (((List.range (c + 1)).map (dg N w)).filter (cmp s o h)) → ∃ m', D266_175 F (D266_18 F f) (Int32.ofNat t) (Int32.ofNat w) (Int32.ofNat c) v4 m2 = some ((), m') ∧ stR m' o w ((rws N w).filter (cmp s o h)) := fun {m2 v4} k1 k2 => by
        obtain ⟨m', d1, d2⟩ := ih (m := m2) (c := c + 1) k1 k2 (by omega) (by omega)
        refine ⟨m', ?_, d2⟩
        unfold D266_175
        rw [show Int32.ofNat c + Int32.ofInt 1 = Int32.ofNat (c + 1) from xadd (a := c) (b := 1) (by omega)]
        exact d1
      have no : cmp s o h (dg N w c) = false → ∀ {v4 : Int32}, ∃ m', D266_175 F (D266_18 F f) (Int32.ofNat t) (Int32.ofNat w) (Int32.ofNat c) v4 m = some ((), m') ∧ stR m' o w ((rws N w).filter (cmp s o h)) := fun hv {v4} => go es (by
        rw [eL, hv, if_neg (show ¬ (false = true) by decide), List.append_nil]
        exact S)
      have no88 : cmp s o h (dg N w c) = false → ∃ m', D266_88 F (D266_18 F f) (Int32.ofNat t) (Int32.ofNat w) (Int32.ofNat c) m = some ((), m') ∧ stR m' o w ((rws N w).filter (cmp s o h)) := fun hv => by
        obtain ⟨m', d1, d2⟩ := no hv (v4 := 0)
        refine ⟨m', ?_, d2⟩
        unfold D266_88 D266_89
        exact oT (by decide) d1
      have r6 := r236 (F := F) (m := m) (c := c) (n := w) (N := N) (k := w - 1) (v1 := Int32.ofNat c) (v2 := Int32.ofNat w) (v3 := Int32.ofNat w - 1) (by omega) rfl rfl wm e0 N1 hN (by omega) (by omega) (by omega)
      have r3 := r208 (F := F) (m := m) (t := t) (w := 3) rfl rfl t6 (by decide)
      have r0 := r208 (F := F) (m := m) (t := t) (w := 0) rfl rfl t6 (by decide)
      rw [es] at r3 r0
      rw [eh] at r3
      rw [Nat.add_zero, eo] at r0
      have r7 := r237 (F := F) (m := m) (c := c) (n := w) (N := N) (v1 := Int32.ofNat c) (v2 := Int32.ofNat w) (by omega) rfl rfl e0 N1 hN (by omega) (by omega)
      have r8 := r238 (F := F) (m := m) (c := c) (n := w) (N := N) (h := o) (v1 := Int32.ofNat c) (v2 := Int32.ofNat w) (v3 := Int32.ofNat o) (by omega) rfl rfl rfl e0 N1 hN (by omega) (by omega) (by omega)
      have r9 := r239 (F := F) (m := m) (c := c) (n := w) (N := N) (a := o) (v1 := Int32.ofNat o) (v2 := Int32.ofNat c) (v3 := Int32.ofNat w) (by omega) rfl rfl rfl e0 N1 hN (by omega) (by omega) (by omega)
      rw [es] at r9
      have cR := cmc_R (s := s) (o := o) (h := h) (N := N) (n := w) (c := c) w1
      unfold cmc at cR
      have dl := dgt_lt (N := N) (n := w) (c := c) (k := w - 1) N1
      have ed := nJ (n := dgt N w c (w - 1)) (by omega)
      have eh' := nJ (n := h) (by omega)
      by_cases a1 : dgt N w c (w - 1) = h
      rotate_left
      · obtain ⟨m', d1, d2⟩ := no88 (by rw [← cR, beq_eq_false_iff_ne.mpr a1]; rfl)
        exact ⟨m', oF g0 (ob r5 (oF g1 (ob r6 (ob r3 (oT (by rw [zcn, beq_eq_false_iff_ne.mpr (fun z => a1 (by have z : (Int32.ofNat (dgt N w c (w - 1))).toInt = (Int32.ofNat h).toInt := congrArg Int32.toInt z; omega))]; rfl) d1))))), d2⟩
      rw [beq_iff_eq.mpr a1, Bool.true_and] at cR
      have g2 : zcmp .ne (Int32.ofNat (dgt N w c (w - 1))) (Int32.ofNat h) = false := by
        rw [zcn, a1, beq_self_eq_true]
        rfl
      cases a2 : nodp 0 (dg N w c) with
      | false =>
        rw [a2] at cR r7
        obtain ⟨m', d1, d2⟩ := no88 (by rw [← cR]; rfl)
        exact ⟨m', oF g0 (ob r5 (oF g1 (ob r6 (ob r3 (oF g2 (ob r7 (oT (zeT rfl) d1))))))), d2⟩
      | true =>
        rw [a2] at cR r7
        rw [Bool.true_and] at cR
        cases a3 : (dg N w c).any (· == o) with
        | true =>
          rw [a3] at cR r8
          obtain ⟨m', d1, d2⟩ := no88 (by rw [← cR]; rfl)
          exact ⟨m', oF g0 (ob r5 (oF g1 (ob r6 (ob r3 (oF g2 (ob r7 (oF (zeF rfl) (ob r0 (ob r8 (oT (znT rfl) d1)))))))))), d2⟩
        | false =>
          rw [a3] at cR r8
          rw [Bool.not_false, Bool.true_and] at cR
          have pre : ∀ {r : Option (Unit × xS)}, D266_89 F (D266_18 F f) (Int32.ofNat t) (Int32.ofNat w) (Int32.ofNat c) 1 m = r → (if zcmp .ge (Int32.ofNat w) (Int32.ofNat N) = true then some ((), m) else (D235 F (Int32.ofNat N) (Int32.ofNat w) m).bind fun q36 =>
        if zcmp .ge (Int32.ofNat c) q36.1 = true then
          some ((), q36.2)
        else
          (D236 F (Int32.ofNat c) (Int32.ofNat w) (Int32.ofNat w - 1) q36.2).bind fun q48 =>
            (D208 F (Int32.ofNat t) 3 q48.2).bind fun q54 =>
              if zcmp .ne q48.1 q54.1 = true then
                D266_88 F (D266_18 F f) (Int32.ofNat t) (Int32.ofNat w) (Int32.ofNat c) q54.2
              else
                (D237 F (Int32.ofNat c) (Int32.ofNat w) q54.2).bind fun q63 =>
                  if zcmp .eq q63.1 0 = true then
                    D266_88 F (D266_18 F f) (Int32.ofNat t) (Int32.ofNat w) (Int32.ofNat c) q63.2
                  else
                    (D208 F (Int32.ofNat t) 0 q63.2).bind fun q75 =>
                      (D238 F (Int32.ofNat c) (Int32.ofNat w) q75.1 q75.2).bind fun q78 =>
                        if zcmp .ne q78.1 0 = true then
                          D266_88 F (D266_18 F f) (Int32.ofNat t) (Int32.ofNat w) (Int32.ofNat c) q78.2
                        else
                          D266_89 F (D266_18 F f) (Int32.ofNat t) (Int32.ofNat w) (Int32.ofNat c) 1 q78.2) = r := fun {r} k => oF g0 (ob r5 (oF g1 (ob r6 (ob r3 (oF g2 (ob r7 (oF (zeF rfl) (ob r0 (ob r8 (oF (znF rfl) k))))))))))
          cases a4 : trs s o (dg N w c) with
          | false =>
            rw [a4] at cR r9
            obtain ⟨m', d1, d2⟩ := no (v4 := 1) cR.symm
            refine ⟨m', pre ?_, d2⟩
            unfold D266_89
            exact oF (by decide) (ob r0 (ob r9 (oF (znF rfl) d1)))
          | true =>
            rw [a4] at cR r9
            have go137 : ∀ {x : Nat}, x < 6 → x = len1 o w (dg N w c) → ∃ m', D266_137 F (D266_18 F f) (Int32.ofNat t) (Int32.ofNat w) (Int32.ofNat c) 1 (Int32.ofNat x) m = some ((), m') ∧ stR m' o w ((rws N w).filter (cmp s o h)) := fun {x} hx ex => by
              have s32 := S.1
              have lI := nJ (n := 0) (by decide)
              unfold D266_137 D266_152
              by_cases n0 : ((List.range c).map (dg N w)).filter (cmp s o h) = []
              · have e32 : m.1 70 32 = 0 := by rw [s32, n0]; rfl
                have a := stR_a (m2 := xu m 70 34 (Int32.ofNat x)) S w1 hx ex (by omega) (by rw [xu_s, if_pos n0]) (xu_o (by decide)) (xu_o (by decide))
                obtain ⟨m', d1, d2⟩ := go (v4 := 1) (m2 := xu (xu (xu m 70 34 (Int32.ofNat x)) 70 33 ((xu m 70 34 (Int32.ofNat x)).1 70 33 ||| (1 <<< (Int32.ofNat x &&& 31)))) 70 32 ((xu m 70 34 (Int32.ofNat x)).1 70 32 + 1)) (by rw [xu_row (by decide), xu_row (by decide), xu_row (by decide)]; exact es) (by
                  rw [eL, ← cR, if_pos rfl]
                  exact a)
                exact ⟨m', oF (by rw [zcn, e32]; rfl) d1, d2⟩
              · have e32 : ¬ m.1 70 32 = 0 := fun z => n0 (by
                  rw [s32] at z
                  have z := congrArg Int32.toInt z
                  rw [xI (a := (((List.range c).map (dg N w)).filter (cmp s o h)).length) (by omega)] at z
                  have l0 : (0 : Int32).toInt = 0 := rfl
                  rw [l0] at z
                  exact List.length_eq_zero_iff.mp (by omega))
                have a := stR_a (m2 := m) S w1 hx ex (by omega) (by rw [if_neg n0]) rfl rfl
                obtain ⟨m', d1, d2⟩ := go (v4 := 1) (m2 := xu (xu m 70 33 (m.1 70 33 ||| (1 <<< (Int32.ofNat x &&& 31)))) 70 32 (m.1 70 32 + 1)) (by rw [xu_row (by decide), xu_row (by decide)]; exact es) (by
                  rw [eL, ← cR, if_pos rfl]
                  exact a)
                refine ⟨m', oT (by rw [zcn, beq_eq_false_iff_ne.mpr e32]; rfl) ?_, d2⟩
                exact d1
            by_cases w2 : w = 1
            · obtain ⟨m', d1, d2⟩ := go137 (x := o) (by omega) (by unfold len1; rw [if_neg (by omega)])
              refine ⟨m', pre ?_, d2⟩
              unfold D266_89
              refine oF (by decide) (ob r0 (ob r9 (oT (znT rfl) (oF (by rw [zcn, w2]; rfl) (ob r0 d1)))))
            · have wm2 : Int32.ofNat w - 2 = Int32.ofNat (w - 2) := xsub (a := w) (b := 2) (by omega) (by omega)
              have r62 := r236 (F := F) (m := m) (c := c) (n := w) (N := N) (k := w - 2) (v1 := Int32.ofNat c) (v2 := Int32.ofNat w) (v3 := Int32.ofNat w - 2) (by omega) rfl rfl wm2 e0 N1 hN (by omega) (by omega) (by omega)
              have dl2 := dgt_lt (N := N) (n := w) (c := c) (k := w - 2) N1
              obtain ⟨m', d1, d2⟩ := go137 (x := dgt N w c (w - 2)) (by omega) (by unfold len1; rw [if_pos (by omega), dg_getD (by omega)])
              have l1 : (1 : Int32).toInt = 1 := rfl
              refine ⟨m', pre ?_, d2⟩
              unfold D266_89
              exact oF (by decide) (ob r0 (ob r9 (oT (znT rfl) (oT (by rw [zcn, beq_eq_false_iff_ne.mpr (fun z => w2 (by have z := congrArg Int32.toInt z; omega))]; rfl) (ob r62 d1)))))
/-- the reference's rows -/
theorem r266 (hF : 120000 ≤ F) {t w o h N : Nat} (t6 : t < 6) (eo : s (10 + 6 * t) = Int32.ofNat o) (eh : s (10 + 6 * t + 3) = Int32.ofNat h) (eN : s 0 = Int32.ofNat N) (N1 : 1 ≤ N) (hN : N ≤ 6) (ho : o < N) (hh : h < N) (w1 : 1 ≤ w) {v2 : Int32} (ev : v2.toInt = (w : Int)) (es : m.1 80 = s) : ∃ m', D266 F (Int32.ofNat t) v2 m = some ((), m') ∧ stR m' o w (if w < N then (rws N w).filter (cmp s o h) else []) := by
  have eNI := nJ (n := N) (by omega)
  have S : stR (xu (xu (xu m 70 32 0) 70 33 0) 70 34 (-2)) o w [] := ⟨by rw [xu_o (by decide), xu_o (by decide), xu_s]; rfl, ⟨by rw [xu_o (by decide), xu_s]; rfl, (by decide : (0 : Nat) < 64)⟩, by rw [xu_s]⟩
  have es2 : (xu (xu (xu m 70 32 0) 70 33 0) 70 34 (-2)).1 80 = s := by rw [xu_row (by decide), xu_row (by decide), xu_row (by decide)]; exact es
  by_cases c : w < N
  · rw [if_pos c]
    have e : v2 = Int32.ofNat w := i32n ev
    subst e
    have bb := p6b (N := N) (k := w) (by omega) (by omega)
    obtain ⟨m', d1, d2⟩ := r266_18 (F := F) (by omega) t6 eo eh eN N1 hN ho hh w1 c F (m := xu (xu (xu m 70 32 0) 70 33 0) 70 34 (-2)) (c := 0) es2 S (Nat.zero_le _) (by omega)
    exact ⟨m', d1, d2⟩
  · rw [if_neg c]
    refine ⟨_, ?_, S⟩
    unfold D266
    obtain ⟨g, hg⟩ : ∃ g, F = g + 1 := ⟨F - 1, by omega⟩
    have k : ∀ (f : Nat), D266_18 F (f + 1) (Int32.ofNat t) v2 0 (xu (xu (xu m 70 32 0) 70 33 0) 70 34 (-2)) = some ((), xu (xu (xu m 70 32 0) 70 33 0) 70 34 (-2)) := fun f => by
      unfold D266_18
      rw [es2, eN]
      exact oT (zc.trans (decide_eq_true (by omega))) rfl
    have z := k g
    rw [← hg] at z
    exact z
/-- no row is so long -/
theorem cmp_no {o h N w : Nat} (N1 : 1 ≤ N) (hN : N ≤ 6) (ho : o < N) (c : ¬ w < N) : (rws N w).filter (cmp s o h) = [] := by
  refine List.filter_eq_nil_iff.mpr (fun r hr hp => ?_)
  rw [← rws_c] at hr
  obtain ⟨k, -, e⟩ := List.mem_map.mp hr
  unfold cmp at hp
  rw [Bool.and_eq_true] at hp
  have el : r.length = w := by rw [← e]; exact dg_len
  have z := rwy_ao (s := s) (N := N) (a := o) (o := o) ho ho hN (rwy_l.mpr ⟨r, el, by rw [← e]; exact dg_lt N1, hp.2, rfl, rfl⟩)
  exact c z.2.2
/-- the class's rows -/
theorem c6 (hF : 100 ≤ F) (R : R32 s (m.1 10)) {t w o h N : Nat} (t6 : t < 6) (eo : s (10 + 6 * t) = Int32.ofNat o) (eh : s (10 + 6 * t + 3) = Int32.ofNat h) (eN : s 0 = Int32.ofNat N) (N1 : 1 ≤ N) (hN : N ≤ 6) (ho : o < N) (hh : h < N) (ev : (s (10 + 6 * t + 4)).toInt = (w : Int)) : ∃ m', D6_44_9 F (Int32.ofNat t) m = some ((), m') ∧ m'.1 44 3 = Int32.ofNat ((rws N w).filter (cmp s o h)).length ∧ m'.1 44 5 = Int32.ofNat (lns o w ((rws N w).filter (cmp s o h)) 0) ∧ (match (rws N w).filter (cmp s o h) with
    | [] => True
    | r :: _ => m'.1 44 6 = Int32.ofNat (len1 o w r)) ∧ m'.1 10 = m.1 10 ∧ m'.1 80 = m.1 80 := by
  have r0 := c87_9 (F := F) R (t := t) (w := 0) rfl rfl t6 (by decide)
  have r3 := c87_9 (F := F) R (t := t) (w := 3) rfl rfl t6 (by decide)
  have r4 := c87_9 (F := F) R (t := t) (w := 4) rfl rfl t6 (by decide)
  rw [Nat.add_zero, eo] at r0
  rw [eh] at r3
  have l5 : (5 : Int32).toInt = 5 := rfl
  by_cases c : w ≤ 5
  · have e : s (10 + 6 * t + 4) = Int32.ofNat w := i32n ev
    rw [e] at r4
    obtain ⟨m', d1, d2, d3⟩ := c7r (s := s) (F := F) (m := m) hF eN hN (st := o) (tg := h) (w := w) (ow := o) (by omega) (by omega) (by omega) c R
    rw [List.filter_filter] at d2
    have d2 : stL m' o h w ((rws N w).filter (cmp s o h)) := d2
    refine ⟨m', ?_, d2.2.1, d2.2.2.1.1, ?_, d3.1 10 (by decide) (by decide) (by decide), d3.1 80 (by decide) (by decide) (by decide)⟩
    · unfold D6_44_9
      exact ob r0 (ob r3 (ob r4 (ob d1 rfl)))
    · have z := d2.2.2.2
      cases q : (rws N w).filter (cmp s o h) with
      | nil => trivial
      | cons r L =>
        rw [q] at z
        exact z.1
  · rw [cmp_no N1 hN ho (by omega)]
    refine ⟨xu (xu (xu (xu (xu (xu m 44 3 0) 44 5 0) 44 6 (-1)) 44 8 (Int32.ofNat o)) 44 9 (Int32.ofNat h)) 44 10 (s (10 + 6 * t + 4)), ?_, ?_, ?_, trivial, ?_, ?_⟩
    · unfold D6_44_9 D7_44_9
      exact ob r0 (ob r3 (ob r4 (ob (a := ()) (oT (zcgt.trans (decide_eq_true (by dsimp only; omega))) rfl) rfl)))
    · rw [xu_o (by decide), xu_o (by decide), xu_o (by decide), xu_o (by decide), xu_o (by decide), xu_s]
      rfl
    · rw [xu_o (by decide), xu_o (by decide), xu_o (by decide), xu_o (by decide), xu_s]
      rfl
    · rw [xu_row (by decide), xu_row (by decide), xu_row (by decide), xu_row (by decide), xu_row (by decide), xu_row (by decide)]
    · rw [xu_row (by decide), xu_row (by decide), xu_row (by decide), xu_row (by decide), xu_row (by decide), xu_row (by decide)]
theorem vCame (hF : 120000 ≤ F) {y1 y2 : Int32} (es : m.1 80 = s) (R : R32 s (m.1 10)) (I : vI s) (hL : ∀ t : Nat, (t : Int) < (s 2).toInt → s (10 + 6 * t + 3) ≠ s (10 + 6 * t) → 1 ≤ (s (10 + 6 * t + 4)).toInt) : ∃ v m1, D148_0 F y1 y2 m = some (v, m1) ∧ m1.1 80 = m.1 80 ∧ ∀ m2 : xS, m2.1 80 = s → ∃ m3, D267 F y1 y2 m2 = some (v, m3) := by
  have l0 : (0 : Int32).toInt = 0 := rfl
  have l1 : (1 : Int32).toInt = 1 := rfl
  have l2 : (2 : Int32).toInt = 2 := rfl
  have n2 := I_nt I
  have n6 := I_n6 I
  unfold D148_0 D267
  cases c : pin s 2 y1 with
  | false => exact ⟨-1, m, ob (c83_9 R) (oT (zeT c) rfl), rfl, fun m2 e2 => ⟨m2, ob r206 (oT (zeT (by rw [e2]; exact c)) rfl)⟩⟩
  | true =>
    by_cases b : 0 ≤ y2.toInt ∧ y2.toInt ≤ 2
    rotate_left
    · refine ⟨-1, m, ob (c83_9 R) (oF (zeF c) ?_), rfl, fun m2 e2 => ⟨m2, ob r206 (oF (zeF (by rw [e2]; exact c)) (ob (r158 (x := 0) (y := 2) rfl rfl) (oF (znF ?_) rfl)))⟩⟩
      · by_cases q : y2.toInt < 0
        · exact oT (zcl.trans (decide_eq_true (by omega))) rfl
        · exact oF (zcl.trans (decide_eq_false (by omega))) (oF (zcle.trans (decide_eq_false (by omega))) rfl)
      · rw [← Bool.not_eq_true, Bool.and_eq_true, decide_eq_true_eq, decide_eq_true_eq]
        exact b
    obtain ⟨t, rfl, ht⟩ := pin_n c
    have t6 : t < 6 := by omega
    have it := I.2.1 t ht
    have f1 : zcmp .lt y2 0 = false := zcl.trans (decide_eq_false (by omega))
    have f2 : zcmp .le y2 2 = true := zcle.trans (decide_eq_true (by omega))
    have f3 : zcmp .ne (pB (decide (0 ≤ y2.toInt) && decide (y2.toInt ≤ 2))) 0 = true := znT (by rw [decide_eq_true b.1, decide_eq_true b.2]; rfl)
    obtain ⟨N, eN⟩ : ∃ N : Nat, (s 0).toInt = (N : Int) := ⟨(s 0).toInt.toNat, by omega⟩
    obtain ⟨o, eo⟩ : ∃ o : Nat, (s (10 + 6 * t)).toInt = (o : Int) := ⟨(s (10 + 6 * t)).toInt.toNat, by omega⟩
    obtain ⟨h, eh⟩ : ∃ h : Nat, (s (10 + 6 * t + 3)).toInt = (h : Int) := ⟨(s (10 + 6 * t + 3)).toInt.toNat, by omega⟩
    have fo := i32n eo
    have fh := i32n eh
    have fN := i32n eN
    -- which answer
    have z1 : ∀ {a : Nat}, y2.toInt = (a : Int) → a = 0 → zcmp .ne y2 0 = false := fun {a} e z => (zcni (y := 0) rfl).trans (by rw [decide_eq_true (by omega)]; rfl)
    have z2 : ∀ {a : Nat}, y2.toInt = (a : Int) → ¬ a = 0 → zcmp .ne y2 0 = true := fun {a} e z => (zcni (y := 0) rfl).trans (by rw [decide_eq_false (by omega)]; rfl)
    have z3 : ∀ {a : Nat}, y2.toInt = (a : Int) → a = 1 → zcmp .ne y2 1 = false := fun {a} e z => (zcni (y := 1) rfl).trans (by rw [decide_eq_true (by omega)]; rfl)
    have z4 : ∀ {a : Nat}, y2.toInt = (a : Int) → ¬ a = 1 → zcmp .ne y2 1 = true := fun {a} e z => (zcni (y := 1) rfl).trans (by rw [decide_eq_false (by omega)]; rfl)
    obtain ⟨a, ea⟩ : ∃ a : Nat, y2.toInt = (a : Int) := ⟨y2.toInt.toNat, by omega⟩
    cases p : phm s t with
    | true =>
      have e3 : s (10 + 6 * t + 3) = s (10 + 6 * t) := by
        unfold phm at p
        exact eq_of_beq p
      have eho : h = o := by
        have z := congrArg Int32.toInt e3
        omega
      have e4 := (it.2.2.1 e3).1
      obtain ⟨m1, d1, d2, d3, d4, d5, d6⟩ := c6 (F := F) (m := m) (by omega) R (t := t) (w := 0) (o := o) (h := h) (N := N) t6 fo fh fN (by omega) (by omega) (by omega) (by omega) (by rw [e4]; rfl)
      have eL : (rws N 0).filter (cmp s o h) = [[]] := by
        show [[]].filter (cmp s o h) = [[]]
        rw [List.filter_cons, show cmp s o h [] = true by (unfold cmp; rw [eho]; show (o == o && true) = true; rw [beq_self_eq_true]; rfl), if_pos rfl]
        rfl
      rw [eL] at d2 d3
      have d2 : m1.1 44 3 = 1 := d2
      have d3 : m1.1 44 5 = 0 := d3
      have pref : ∀ {m2 : xS} {r : Option (Int32 × xS)}, m2.1 80 = s → (if zcmp .ne y2 0 = true then (if zcmp .ne y2 1 = true then some ((-2 : Int32), m2) else some (0, m2)) else some (1, m2)) = r → ((D206 F (Int32.ofNat t) m2).bind fun q2 =>
    if zcmp .eq q2.1 0 = true then
      D267_20 F (Int32.ofNat t) y2 q2.2
    else
      (D158 F (y2 : Int32).toInt64 0 2 q2.2).bind fun q14 =>
        if zcmp .ne q14.1 0 = true then
          (D212 F (Int32.ofNat t) q14.2).bind fun q24 =>
            if zcmp .eq q24.1 0 = true then
              (D208 F (Int32.ofNat t) 4 q24.2).bind fun q55 =>
                (D266 F (Int32.ofNat t) q55.1 q55.2).bind fun q58 =>
                  if zcmp .ne y2 0 = true then
                    if zcmp .ne y2 1 = true then
                      some ((q58.2.1 70 34), q58.2)
                    else
                      some ((q58.2.1 70 33), q58.2)
                  else
                    some ((q58.2.1 70 32), q58.2)
            else
              if zcmp .ne y2 0 = true then
                if zcmp .ne y2 1 = true then
                  some ((-2), q24.2)
                else
                  some (0, q24.2)
              else
                some (1, q24.2)
        else
          D267_20 F (Int32.ofNat t) y2 q14.2) = r := fun {m2 r} e2 k => ob r206 (oF (zeF (by rw [e2]; exact c)) (ob (r158 (x := 0) (y := 2) rfl rfl) (oT f3 (ob (r212 rfl t6) (oF (zeF (by rw [e2]; exact p)) k)))))
      by_cases a0 : a = 0
      · exact ⟨1, m1, ob (c83_9 R) (oF (zeF c) (oF f1 (oT f2 (ob d1 (oF (z1 ea a0) (by dsimp only; rw [d2])))))), d6, fun m2 e2 => ⟨m2, pref e2 (oF (z1 ea a0) rfl)⟩⟩
      by_cases a1 : a = 1
      · exact ⟨0, m1, ob (c83_9 R) (oF (zeF c) (oF f1 (oT f2 (ob d1 (oT (z2 ea a0) (oF (z3 ea a1) (by dsimp only; rw [d3]))))))), d6, fun m2 e2 => ⟨m2, pref e2 (oT (z2 ea a0) (oF (z3 ea a1) rfl))⟩⟩
      · refine ⟨-2, m1, ob (c83_9 R) (oF (zeF c) (oF f1 (oT f2 (ob d1 (oT (z2 ea a0) (oT (z4 ea a1) ?_)))))), d6, fun m2 e2 => ⟨m2, pref e2 (oT (z2 ea a0) (oT (z4 ea a1) rfl))⟩⟩
        dsimp only
        rw [d2]
        exact oF (by decide) (ob (c97_9 (by rw [d5]; exact R) rfl t6) (oF (zeF p) rfl))
    | false =>
      have e3 : s (10 + 6 * t + 3) ≠ s (10 + 6 * t) := by
        unfold phm at p
        exact beq_eq_false_iff_ne.mp p
      have w1 := hL t ht e3
      obtain ⟨w, ew⟩ : ∃ w : Nat, (s (10 + 6 * t + 4)).toInt = (w : Int) := ⟨(s (10 + 6 * t + 4)).toInt.toNat, by omega⟩
      obtain ⟨m1, d1, d2, d3, d4, d5, d6⟩ := c6 (F := F) (m := m) (by omega) R (t := t) (w := w) (o := o) (h := h) (N := N) t6 fo fh fN (by omega) (by omega) (by omega) (by omega) ew
      have eL : (if w < N then (rws N w).filter (cmp s o h) else []) = (rws N w).filter (cmp s o h) := by
        by_cases q : w < N
        · rw [if_pos q]
        · rw [if_neg q, cmp_no (by omega) (by omega) (by omega) q]
      have ref : ∀ m2 : xS, m2.1 80 = s → ∃ m3, D266 F (Int32.ofNat t) (s (10 + 6 * t + 4)) m2 = some ((), m3) ∧ stR m3 o w ((rws N w).filter (cmp s o h)) := fun m2 e2 => by
        have z := r266 (F := F) (m := m2) hF (t := t) (w := w) (o := o) (h := h) (N := N) t6 fo fh fN (by omega) (by omega) (by omega) (by omega) (by omega) ew e2
        rw [eL] at z
        exact z
      have r4 : ∀ m2 : xS, m2.1 80 = s → D208 F (Int32.ofNat t) 4 m2 = some (s (10 + 6 * t + 4), m2) := fun m2 e2 => by
        have z := r208 (F := F) (m := m2) (t := t) (w := 4) rfl rfl t6 (by decide)
        rw [e2] at z
        exact z
      generalize hW : (rws N w).filter (cmp s o h) = L at d2 d3 d4 ref
      have lenL : L.length ≤ 100000 := by
        have bb := p6b (N := N) (k := w % 7) (by omega) (by omega)
        rw [← hW]
        by_cases q : w < N
        · have bb := p6b (N := N) (k := w) (by omega) (by omega)
          have k : N ^ w ≤ 6 ^ 5 := Nat.le_trans (Nat.pow_le_pow_left (by omega) w) (Nat.pow_le_pow_right (by decide) (by omega))
          have := List.length_filter_le (cmp s o h) (rws N w)
          rw [rws_n] at this
          have : (6 : Nat) ^ 5 = 7776 := by decide
          omega
        · rw [cmp_no (by omega) (by omega) (by omega) q]
          exact Nat.zero_le _
      by_cases a0 : a = 0
      · refine ⟨Int32.ofNat L.length, m1, ob (c83_9 R) (oF (zeF c) (oF f1 (oT f2 (ob d1 (oF (z1 ea a0) (by dsimp only; rw [d2])))))), d6, fun m2 e2 => ?_⟩
        obtain ⟨m3, k1, k2⟩ := ref m2 e2
        exact ⟨m3, ob r206 (oF (zeF (by rw [e2]; exact c)) (ob (r158 (x := 0) (y := 2) rfl rfl) (oT f3 (ob (r212 rfl t6) (oT (zeT (by rw [e2]; exact p)) (ob (r4 m2 e2) (ob k1 (oF (z1 ea a0) (by dsimp only; rw [k2.1])))))))))⟩
      by_cases a1 : a = 1
      · refine ⟨Int32.ofNat (lns o w L 0), m1, ob (c83_9 R) (oF (zeF c) (oF f1 (oT f2 (ob d1 (oT (z2 ea a0) (oF (z3 ea a1) (by dsimp only; rw [d3]))))))), d6, fun m2 e2 => ?_⟩
        obtain ⟨m3, k1, k2⟩ := ref m2 e2
        exact ⟨m3, ob r206 (oF (zeF (by rw [e2]; exact c)) (ob (r158 (x := 0) (y := 2) rfl rfl) (oT f3 (ob (r212 rfl t6) (oT (zeT (by rw [e2]; exact p)) (ob (r4 m2 e2) (ob k1 (oT (z2 ea a0) (oF (z3 ea a1) (by dsimp only; rw [k2.2.1.1]))))))))))⟩
      · cases L with
        | nil =>
          have d2 : m1.1 44 3 = 0 := d2
          refine ⟨-2, m1, ob (c83_9 R) (oF (zeF c) (oF f1 (oT f2 (ob d1 (oT (z2 ea a0) (oT (z4 ea a1) ?_)))))), d6, fun m2 e2 => ?_⟩
          · dsimp only
            rw [d2]
            exact oT (by decide) rfl
          · obtain ⟨m3, k1, k2⟩ := ref m2 e2
            exact ⟨m3, ob r206 (oF (zeF (by rw [e2]; exact c)) (ob (r158 (x := 0) (y := 2) rfl rfl) (oT f3 (ob (r212 rfl t6) (oT (zeT (by rw [e2]; exact p)) (ob (r4 m2 e2) (ob k1 (oT (z2 ea a0) (oT (z4 ea a1) (by dsimp only; rw [k2.2.2]))))))))))⟩
        | cons r L =>
          have d4 : m1.1 44 6 = Int32.ofNat (len1 o w r) := d4
          refine ⟨Int32.ofNat (len1 o w r), m1, ob (c83_9 R) (oF (zeF c) (oF f1 (oT f2 (ob d1 (oT (z2 ea a0) (oT (z4 ea a1) ?_)))))), d6, fun m2 e2 => ?_⟩
          · dsimp only
            rw [d2]
            refine oF (by
              rw [zce]
              refine beq_eq_false_iff_ne.mpr (fun z => ?_)
              have z := congrArg Int32.toInt z
              rw [xI (a := (r :: L).length) (by omega), l0, List.length_cons] at z
              omega) (ob (c97_9 (by rw [d5]; exact R) rfl t6) (oT (zeT p) ?_))
            dsimp only
            rw [d4]
          · obtain ⟨m3, k1, k2⟩ := ref m2 e2
            exact ⟨m3, ob r206 (oF (zeF (by rw [e2]; exact c)) (ob (r158 (x := 0) (y := 2) rfl rfl) (oT f3 (ob (r212 rfl t6) (oT (zeT (by rw [e2]; exact p)) (ob (r4 m2 e2) (ob k1 (oT (z2 ea a0) (oT (z4 ea a1) (by dsimp only; rw [k2.2.2]))))))))))⟩
end PCAM
