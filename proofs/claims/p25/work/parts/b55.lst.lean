/-! The class lists rows of houses. -/
section PLST
variable {s : Nat → Int32} {N : Nat}
theorem fil_fl {α β : Type} (l : List α) (f : α → List β) (p : β → Bool) : (l.flatMap f).filter p = l.flatMap (fun a => (f a).filter p) := by
  induction l with
  | nil => rfl
  | cons a l ih => rw [List.flatMap_cons, List.flatMap_cons, List.filter_append, ih]
theorem rok_c {a b x : Nat} {r : List Nat} : rok s a b (x :: r) = ((ptr s a x && !b.testBit x) && rok s x (b ||| 2 ^ x) r) := by
  show ((!b.testBit x && nodp (b ||| 2 ^ x) r) && (ptr s a x && trs s x r)) = ((ptr s a x && !b.testBit x) && (nodp (b ||| 2 ^ x) r && trs s x r))
  cases b.testBit x <;> cases ptr s a x <;> cases nodp (b ||| 2 ^ x) r <;> cases trs s x r <;> rfl
theorem fil_mc {P Q : List Nat → Bool} {x : Nat} : ∀ {l : List (List Nat)}, (∀ r, P (x :: r) = Q r) → (l.map (fun r => x :: r)).filter P = (l.filter Q).map (fun r => x :: r)
  | [], _ => rfl
  | r :: l, h => by
    rw [List.map_cons, List.filter_cons, List.filter_cons, h r, fil_mc h]
    split <;> rfl
theorem fil_mn {P : List Nat → Bool} {x : Nat} : ∀ {l : List (List Nat)}, (∀ r, P (x :: r) = false) → (l.map (fun r => x :: r)).filter P = []
  | [], _ => rfl
  | r :: l, h => by
    rw [List.map_cons, List.filter_cons, h r, fil_mn h]
    rfl
/-- the rows from one house on -/
def gst (s : Nat → Int32) (N a b k x : Nat) : List (List Nat) := if (ptr s a x && !b.testBit x) = true then ((rws N k).filter (rok s x (b ||| 2 ^ x))).map (fun r => x :: r) else []
theorem gor_s {a b k : Nat} : (rws N (k + 1)).filter (rok s a b) = (List.range N).flatMap (gst s N a b k) := by
  show ((List.range N).flatMap (fun h => (rws N k).map (fun r => h :: r))).filter (rok s a b) = _
  rw [fil_fl]
  congr 1
  funext x
  unfold gst
  by_cases c : (ptr s a x && !b.testBit x) = true
  · rw [if_pos c]
    exact fil_mc (fun r => by rw [rok_c, c, Bool.true_and])
  · rw [if_neg c]
    exact fil_mn (fun r => by rw [rok_c, show (ptr s a x && !b.testBit x) = false by simpa using c, Bool.false_and])
/-- those that end at tg, behind what has been gone -/
def out (pre : List Nat) (tg a : Nat) (l : List (List Nat)) : List (List Nat) := (l.filter (fun r => rend a r == tg)).map (fun r => pre ++ r)
theorem out_app {pre : List Nat} {tg a : Nat} {l1 l2 : List (List Nat)} : out pre tg a (l1 ++ l2) = out pre tg a l1 ++ out pre tg a l2 := by
  unfold out
  rw [List.filter_append, List.map_append]
theorem out_c {pre : List Nat} {tg a x : Nat} {l : List (List Nat)} : out pre tg a (l.map (fun r => x :: r)) = out (pre ++ [x]) tg x l := by
  unfold out
  rw [fil_mc (Q := fun r => rend x r == tg) (fun r => rfl), List.map_map]
  refine List.map_congr_left (fun r _ => ?_)
  show pre ++ x :: r = (pre ++ [x]) ++ r
  rw [List.append_assoc]
  rfl
theorem rws_n {k : Nat} : (rws N k).length = N ^ k := by rw [← rws_c, List.length_map, List.length_range]
theorem out_n {pre : List Nat} {tg a k : Nat} {P : List Nat → Bool} : (out pre tg a ((rws N k).filter P)).length ≤ N ^ k := by
  unfold out
  rw [List.length_map]
  exact Nat.le_trans (List.length_filter_le _ _) (Nat.le_trans (List.length_filter_le _ _) (Nat.le_of_eq rws_n))
/-- who lends last -/
def len1 (st w : Nat) (r : List Nat) : Nat := if 2 ≤ w then r.getD (w - 2) 0 else st
def lns (st w : Nat) : List (List Nat) → Nat → Nat
  | [], b => b
  | r :: L, b => lns st w L (if 0 < w then b ||| 2 ^ len1 st w r else b)
theorem lns_a {st w : Nat} {r : List Nat} : ∀ {L : List (List Nat)} {b : Nat}, lns st w (L ++ [r]) b = if 0 < w then lns st w L b ||| 2 ^ len1 st w r else lns st w L b
  | [], b => rfl
  | q :: L, b => by
    show lns st w (L ++ [r]) _ = _
    rw [lns_a]
    rfl
end PLST
/-- what the class holds of rows that it has listed -/
def stL (m : xS) (st tg w : Nat) (L : List (List Nat)) : Prop := (m.1 44 8 = Int32.ofNat st ∧ m.1 44 9 = Int32.ofNat tg ∧ m.1 44 10 = Int32.ofNat w) ∧ m.1 44 3 = Int32.ofNat L.length ∧ (m.1 44 5 = Int32.ofNat (lns st w L 0) ∧ lns st w L 0 < 64) ∧ match L with
  | [] => m.1 44 6 = -1
  | r :: _ => m.1 44 6 = Int32.ofNat (len1 st w r) ∧ ∀ j, j < w → m.1 48 j = Int32.ofNat (r.getD j 0)
def kLs (f : Nat) (m m' : xS) : Prop := (∀ i, i ≠ 44 → i ≠ 48 → i ≠ 49 → m'.1 i = m.1 i) ∧ (∀ j, j < f → m'.1 49 j = m.1 49 j) ∧ m'.2 = m.2
theorem kLs_r (f : Nat) (m : xS) : kLs f m m := ⟨fun _ _ _ _ => rfl, fun _ _ => rfl, rfl⟩
theorem kLs_t {f : Nat} {a b c : xS} (h1 : kLs f a b) (h2 : kLs f b c) : kLs f a c := ⟨fun i x y z => (h2.1 i x y z).trans (h1.1 i x y z), fun j hj => (h2.2.1 j hj).trans (h1.2.1 j hj), h2.2.2.trans h1.2.2⟩
theorem kLs_le {f g : Nat} (h : f ≤ g) {a b : xS} (k : kLs g a b) : kLs f a b := ⟨k.1, fun j hj => k.2.1 j (by omega), k.2.2⟩
section PCLS
variable {s : Nat → Int32} {N : Nat} {m : xS} {F : Nat}
/-- noteRow -/
theorem c9r {st tg w : Nat} {r : List Nat} {L : List (List Nat)} (S : stL m st tg w L) (hs : st < 6) (hw : w ≤ 5) (hl : L.length < 1000000) (lr : r.length = w) (hr : ∀ x ∈ r, x < 6) (h49 : ∀ j, j < w → m.1 49 j = Int32.ofNat (r.getD j 0)) : ∃ m', D9_44 F m = some ((), m') ∧ stL m' st tg w (L ++ [r]) ∧ kLs 5 m m' := by
  obtain ⟨⟨s8, s9, s10⟩, s3, ⟨s5, s5b⟩, s6⟩ := S
  have ew := nJ (n := w) (by omega)
  have l2 : (2 : Int32).toInt = 2 := rfl
  have l0 : (0 : Int32).toInt = 0 := rfl
  have e3 : (Int32.ofNat L.length).toInt = (L.length : Int) := xI (by omega)
  have hlen : len1 st w r < 6 := by
    unfold len1
    split
    · rw [List.getD_eq_getElem?_getD, List.getElem?_eq_getElem (by omega), Option.getD_some]
      exact hr _ (List.getElem_mem _)
    · exact hs
  -- the count
  have a72 : ∀ {v1 : Int32} {m1 : xS}, m1.1 44 3 = Int32.ofNat L.length → D9_44_72 F v1 m1 = some ((), xu m1 44 3 (Int32.ofNat (L.length + 1))) := fun {v1 m1} h => by
    unfold D9_44_72
    rw [h, show Int32.ofNat L.length + 1 = Int32.ofNat (L.length + 1) from xadd (a := L.length) (b := 1) (by omega)]
  -- the first row
  have a46 : ∀ {m1 : xS} {b : Nat}, (∀ i, i ≠ 44 → m1.1 i = m.1 i) → (∀ j, j ≠ 5 → m1.1 44 j = m.1 44 j) → m1.1 44 5 = Int32.ofNat b → b < 64 → b = lns st w (L ++ [r]) 0 → m1.2 = m.2 → ∃ m', D9_44_46 F (Int32.ofNat (len1 st w r)) m1 = some ((), m') ∧ stL m' st tg w (L ++ [r]) ∧ kLs 5 m m' := fun {m1 b} h1 h2 h3 h4 h5 h6 => by
    have h33 : m1.1 44 3 = Int32.ofNat L.length := (h2 3 (by decide)).trans s3
    unfold D9_44_46
    cases L with
    | nil =>
      have c : ¬ zcmp .ne (m1.1 44 3) 0 = true := by
        rw [h33]
        decide
      refine ⟨_, (if_neg c).trans (a72 ?_), ?_, fun i x y z => ?_, fun j hj => ?_, h6⟩
      · rw [xcp_o (by decide), xu_o (by decide)]
        exact h33
      · refine ⟨⟨?_, ?_, ?_⟩, ?_, ⟨?_, by rw [← h5]; exact h4⟩, ?_, fun j hj => ?_⟩
        · rw [xu_o (by decide), xcp_o (by decide), xu_o (by decide), h2 8 (by decide)]
          exact s8
        · rw [xu_o (by decide), xcp_o (by decide), xu_o (by decide), h2 9 (by decide)]
          exact s9
        · rw [xu_o (by decide), xcp_o (by decide), xu_o (by decide), h2 10 (by decide)]
          exact s10
        · exact xu_s _ _ _ _
        · rw [xu_o (by decide), xcp_o (by decide), xu_o (by decide), h3, h5]
        · rw [xu_o (by decide), xcp_o (by decide), xu_s]
        · rw [xu_row (by decide), xcp_s (by omega), xu_row (by decide), h1 49 (by decide)]
          exact h49 j hj
      · rw [xu_row x, xcp_o y, xu_row x, h1 i x]
      · rw [xu_row (by decide), xcp_o (by decide), xu_row (by decide), h1 49 (by decide)]
    | cons q L =>
      have c : zcmp .ne (m1.1 44 3) 0 = true := by
        rw [h33, zcn]
        have e : ¬ Int32.ofNat (q :: L).length = 0 := fun z => by
          have z := congrArg Int32.toInt z
          rw [e3, l0, List.length_cons] at z
          omega
        rw [beq_eq_false_iff_ne.mpr e]
        rfl
      refine ⟨_, (if_pos c).trans (a72 h33), ?_, fun i x y z => ?_, fun j hj => ?_, h6⟩
      · refine ⟨⟨?_, ?_, ?_⟩, ?_, ⟨?_, by rw [← h5]; exact h4⟩, ?_, fun j hj => ?_⟩
        · rw [xu_o (by decide), h2 8 (by decide)]
          exact s8
        · rw [xu_o (by decide), h2 9 (by decide)]
          exact s9
        · rw [xu_o (by decide), h2 10 (by decide)]
          exact s10
        · rw [xu_s, List.length_append]
          rfl
        · rw [xu_o (by decide), h3, h5]
        · rw [xu_o (by decide), h2 6 (by decide)]
          exact s6.1
        · rw [xu_row (by decide), h1 48 (by decide)]
          exact s6.2 j hj
      · rw [xu_row x, h1 i x]
      · rw [xu_row (by decide), h1 49 (by decide)]
  have a26 : ∃ m', D9_44_26 F (Int32.ofNat (len1 st w r)) m = some ((), m') ∧ stL m' st tg w (L ++ [r]) ∧ kLs 5 m m' := by
    unfold D9_44_26
    rw [s10]
    by_cases c : 0 < w
    · have g : ¬ zcmp .le (Int32.ofNat w) 0 = true := by
        rw [zcle, decide_eq_true_eq]
        omega
      obtain ⟨b1, b2⟩ := bor s5b hlen
      rw [if_neg g, s5, b1]
      exact a46 (b := lns st w L 0 ||| 2 ^ len1 st w r) (fun i hi => xu_row hi) (fun j hj => xu_o (fun z => hj z.2)) (xu_s _ _ _ _) b2 (by rw [lns_a, if_pos c]) rfl
    · have g : zcmp .le (Int32.ofNat w) 0 = true := zcle.trans (decide_eq_true (by omega))
      rw [if_pos g]
      exact a46 (fun _ _ => rfl) (fun _ _ => rfl) s5 s5b (by rw [lns_a, if_neg c]) rfl
  unfold D9_44
  rw [s10]
  by_cases c : w < 2
  · have g : zcmp .lt (Int32.ofNat w) 2 = true := zcl.trans (decide_eq_true (by omega))
    have e : len1 st w r = st := if_neg (by omega)
    rw [if_pos g, s8]
    rw [e] at a26
    exact a26
  · have g : ¬ zcmp .lt (Int32.ofNat w) 2 = true := by
      rw [zcl, decide_eq_true_eq]
      omega
    have e : len1 st w r = r.getD (w - 2) 0 := if_pos (by omega)
    have ei : (Int32.ofNat w - 2).toInt = ((w - 2 : Nat) : Int) := by
      rw [show Int32.ofNat w - 2 = Int32.ofNat (w - 2) from xsub (a := w) (b := 2) (by omega) (by omega)]
      exact nJ (by omega)
    rw [if_neg g, if_pos (gxb ei (by omega)), gxn ei, h49 _ (by omega), ← e]
    exact a26
/-- goOn -/
theorem c8r (hF : 100 ≤ F) (e0 : s 0 = Int32.ofNat N) (hN : N ≤ 6) {st tg w : Nat} (hs : st < 6) (htg : tg < 6) (hw : w ≤ 5) : ∀ (g : Nat) {a b f k : Nat} {m : xS} {L : List (List Nat)} {pre : List Nat}, k < g → f + k = w → a < 6 → b < 64 → pre.length = f → (∀ x ∈ pre, x < 6) → (∀ j, j < f → m.1 49 j = Int32.ofNat (pre.getD j 0)) → stL m st tg w L → R32 s (m.1 10) → L.length + N ^ k ≤ 100000 → ∃ m', D8_44_9r F g (Int32.ofNat a) (Int32.ofNat b) (Int32.ofNat f) m = some ((), m') ∧ stL m' st tg w (L ++ out pre tg a ((rws N k).filter (rok s a b))) ∧ kLs f m m' := by
  have eN := nJ (n := N) (by omega)
  have ew := nJ (n := w) (by omega)
  have l5 : (5 : Int32).toInt = 5 := rfl
  intro g
  induction g with
  | zero => intro a b f k m L pre l; omega
  | succ g ihg =>
    intro a b f k m L pre hk hf ha hb lp hp h49 S Rm bd
    have ef := nJ (n := f) (by omega)
    obtain ⟨⟨s8, s9, s10⟩, -⟩ := id S
    show ∃ m', D8_44_9 F (D8_44_9r F g) (Int32.ofNat a) (Int32.ofNat b) (Int32.ofNat f) m = some ((), m') ∧ _
    unfold D8_44_9
    rw [s10]
    cases k with
    | zero =>
      have g1 : zcmp .ge (Int32.ofNat f) (Int32.ofNat w) = true := zc.trans (decide_eq_true (by omega))
      have ro : rok s a b [] = true := rfl
      have eo : (rws N 0).filter (rok s a b) = [[]] := by
        show ([[]] : List (List Nat)).filter (rok s a b) = [[]]
        rw [List.filter_cons, ro]
        rfl
      rw [if_pos g1, eo]
      unfold D8_44_9_15
      rw [s9]
      by_cases c : a = tg
      · have g2 : ¬ zcmp .ne (Int32.ofNat a) (Int32.ofNat tg) = true := by
          rw [c, zcn, beq_self_eq_true]
          decide
        have e1 : out pre tg a [[]] = [pre] := by
          unfold out
          have : (rend a ([] : List Nat) == tg) = true := by
            show (a == tg) = true
            rw [c]
            exact beq_self_eq_true _
          rw [List.filter_cons, this]
          show [pre ++ []] = [pre]
          rw [List.append_nil]
        obtain ⟨m', d1, d2, d3⟩ := c9r (F := F) (r := pre) S hs hw (by omega) (by omega) hp (fun j hj => h49 j (by omega))
        rw [if_neg g2, e1]
        exact ⟨m', ob d1 rfl, d2, kLs_le (by omega) d3⟩
      · have g2 : zcmp .ne (Int32.ofNat a) (Int32.ofNat tg) = true := by
          rw [zcn, beq_eq_false_iff_ne.mpr (fun z => c ((xeq (by omega) (by omega)).mp z))]
          rfl
        have e1 : out pre tg a [[]] = [] := by
          unfold out
          have : (rend a ([] : List Nat) == tg) = false := by
            show (a == tg) = false
            exact beq_eq_false_iff_ne.mpr c
          rw [List.filter_cons, this]
          rfl
        rw [if_pos g2, e1, List.append_nil]
        exact ⟨m, rfl, S, kLs_r _ _⟩
    | succ k =>
      have g1 : ¬ zcmp .ge (Int32.ofNat f) (Int32.ofNat w) = true := by
        rw [zc, decide_eq_true_eq]
        omega
      have g2 : zcmp .lt (Int32.ofNat f) 5 = true := zcl.trans (decide_eq_true (by omega))
      rw [if_neg g1, if_pos g2, gor_s]
      have loop : ∀ (fu : Nat) {h : Nat} {m : xS} {L : List (List Nat)}, h ≤ N → N - h < fu → (∀ j, j < f → m.1 49 j = Int32.ofNat (pre.getD j 0)) → stL m st tg w L → R32 s (m.1 10) → L.length + (N - h) * N ^ k ≤ 100000 → ∃ m', D8_44_9_31 F (D8_44_9r F g) fu (Int32.ofNat a) (Int32.ofNat b) (Int32.ofNat f) (Int32.ofNat h) m = some ((), m') ∧ stL m' st tg w (L ++ out pre tg a ((List.range' h (N - h)).flatMap (gst s N a b k))) ∧ kLs f m m' := by
        intro fu
        induction fu with
        | zero => intro h m L _ l; omega
        | succ fu ih =>
          intro h m L hh l h49 S Rm bd
          have eh := nJ (n := h) (by omega)
          have r77 := c77_9 (F := F) Rm
          rw [e0] at r77
          unfold D8_44_9_31
          by_cases q : N ≤ h
          · rw [show N - h = 0 by omega]
            refine ⟨m, ob r77 (oT (zc.trans (decide_eq_true (by dsimp only; omega))) rfl), ?_, kLs_r _ _⟩
            show stL m st tg w (L ++ out pre tg a [])
            rw [show out pre tg a [] = [] from rfl, List.append_nil]
            exact S
          · have sp : N - h = (N - (h + 1)) + 1 := by omega
            rw [sp, List.range'_succ, List.flatMap_cons, out_app, ← List.append_assoc]
            have g3 : zcmp .ge (Int32.ofNat h) (Int32.ofNat N) = false := zc.trans (decide_eq_false (by omega))
            have h6 : h < 6 := by omega
            have r92 := c92u (F := F) Rm (a := a) (d := h) rfl rfl ha h6
            have bd' : L.length + N ^ k + (N - (h + 1)) * N ^ k ≤ 100000 := by
              rw [sp, Nat.succ_mul] at bd
              omega
            have nx : ∀ {m2 : xS}, (∀ j, j < f → m2.1 49 j = Int32.ofNat (pre.getD j 0)) → stL m2 st tg w (L ++ out pre tg a (gst s N a b k h)) → R32 s (m2.1 10) → kLs f m m2 → ∃ m', D8_44_9_85 F (D8_44_9r F g) (D8_44_9_31 F (D8_44_9r F g) fu) (Int32.ofNat a) (Int32.ofNat b) (Int32.ofNat f) (Int32.ofNat h) m2 = some ((), m') ∧ stL m' st tg w (L ++ out pre tg a (gst s N a b k h) ++ out pre tg a ((List.range' (h + 1) (N - (h + 1))).flatMap (gst s N a b k))) ∧ kLs f m m' := fun {m2} k1 k2 k3 k4 => by
              have len : (out pre tg a (gst s N a b k h)).length ≤ N ^ k := by
                unfold gst
                split
                · rw [out_c]
                  exact out_n
                · exact Nat.zero_le _
              obtain ⟨m', d1, d2, d3⟩ := ih (h := h + 1) (m := m2) (by omega) (by omega) k1 k2 k3 (by rw [List.length_append]; omega)
              refine ⟨m', ?_, d2, kLs_t k4 d3⟩
              unfold D8_44_9_85
              rw [(o1 (n := h) (by omega)).2.2]
              exact d1
            by_cases c : (ptr s a h && !b.testBit h) = true
            · have c' := c
              rw [Bool.and_eq_true, Bool.not_eq_true'] at c'
              have t1 : ¬ zcmp .ne ((Int32.ofNat b >>> (Int32.ofNat h &&& 31)) &&& 1) 0 = true := by
                rw [tbn hb h6, c'.2]
                decide
              obtain ⟨b1, b2⟩ := bor hb h6
              have eg : gst s N a b k h = ((rws N k).filter (rok s h (b ||| 2 ^ h))).map (fun r => h :: r) := if_pos c
              have Su : stL (xu m 49 f (Int32.ofNat h)) st tg w L := by
                obtain ⟨⟨q8, q9, q10⟩, q3, q5, q6⟩ := S
                refine ⟨⟨by rw [xu_row (by decide)]; exact q8, by rw [xu_row (by decide)]; exact q9, by rw [xu_row (by decide)]; exact q10⟩, by rw [xu_row (by decide)]; exact q3, by rw [xu_row (by decide)]; exact q5, ?_⟩
                cases L with
                | nil =>
                  show (xu m 49 f (Int32.ofNat h)).1 44 6 = -1
                  rw [xu_row (by decide)]
                  exact q6
                | cons q L =>
                  show (xu m 49 f (Int32.ofNat h)).1 44 6 = _ ∧ ∀ j, j < w → (xu m 49 f (Int32.ofNat h)).1 48 j = _
                  rw [xu_row (by decide), xu_row (by decide)]
                  exact q6
              obtain ⟨m2, u1, u2, u3⟩ := ihg (a := h) (b := b ||| 2 ^ h) (f := f + 1) (k := k) (m := xu m 49 f (Int32.ofNat h)) (L := L) (pre := pre ++ [h]) (by omega) (by omega) h6 b2 (by rw [List.length_append, lp]; rfl) (fun x hx => by
                rcases List.mem_append.mp hx with z | z
                · exact hp x z
                · rw [List.mem_singleton] at z
                  omega) (fun j hj => by
                by_cases y : j = f
                · subst y
                  rw [xu_s, List.getD_eq_getElem?_getD, List.getElem?_append_right (by omega), lp, Nat.sub_self]
                  rfl
                · rw [xu_o (fun z => y z.2), h49 j (by omega), List.getD_eq_getElem?_getD, List.getD_eq_getElem?_getD, List.getElem?_append_left (by omega)]) Su (by rw [xu_row (by decide)]; exact Rm) (by omega)
              rw [← out_c, ← eg] at u2
              obtain ⟨m', d1, d2⟩ := nx (m2 := m2) (fun j hj => by
                rw [u3.2.1 j (by omega), xu_o (fun z => by omega)]
                exact h49 j hj) u2 (by rw [u3.1 10 (by decide) (by decide) (by decide), xu_row (by decide)]; exact Rm) ⟨fun i x y z => (u3.1 i x y z).trans (xu_row z), fun j hj => (u3.2.1 j (by omega)).trans (xu_o (fun z => by omega)), u3.2.2⟩
              refine ⟨m', ob r77 (oF g3 (ob r92 (oF (zeF c'.1) ?_))), d2⟩
              rw [if_neg t1, if_pos (gxb ef (by omega)), gxn ef, b1, show Int32.ofNat f + 1 = Int32.ofNat (f + 1) from xadd (a := f) (b := 1) (by omega)]
              exact ob u1 d1
            · have eg : gst s N a b k h = [] := if_neg c
              obtain ⟨m', d1, d2⟩ := nx (m2 := m) h49 (by rw [eg, show out pre tg a [] = [] from rfl, List.append_nil]; exact S) Rm (kLs_r _ _)
              refine ⟨m', ob r77 (oF g3 (ob r92 ?_)), d2⟩
              by_cases p : ptr s a h = true
              · have t0 : b.testBit h = true := by
                  rw [p, Bool.true_and] at c
                  simpa using c
                have t1 : zcmp .ne ((Int32.ofNat b >>> (Int32.ofNat h &&& 31)) &&& 1) 0 = true := by
                  rw [tbn hb h6]
                  exact t0
                exact oF (zeF p) (oT t1 d1)
              · exact oT (zeT (by simpa using p)) d1
      have z := loop F (h := 0) (m := m) (L := L) (Nat.zero_le _) (by omega) h49 S Rm (by rw [Nat.sub_zero, ← Nat.pow_succ']; exact bd)
      rw [Nat.sub_zero, ← List.range_eq_range'] at z
      exact z
/-- listFrom -/
theorem c7r (hF : 100 ≤ F) (e0 : s 0 = Int32.ofNat N) (hN : N ≤ 6) {st tg w ow : Nat} (hs : st < 6) (htg : tg < 6) (how : ow < 6) (hw : w ≤ 5) (Rm : R32 s (m.1 10)) : ∃ m', D7_44_9 F (Int32.ofNat st) (Int32.ofNat ow) (Int32.ofNat tg) (Int32.ofNat w) m = some ((), m') ∧ stL m' st tg w (((rws N w).filter (rok s st (2 ^ st ||| 2 ^ ow))).filter (fun r => rend st r == tg)) ∧ kLs 0 m m' := by
  have ew := nJ (n := w) (by omega)
  have l5 : (5 : Int32).toInt = 5 := rfl
  obtain ⟨p1, p2⟩ := b2p hs
  obtain ⟨q1, q2⟩ := bor p2 how
  have nw : N ^ w ≤ 100000 := Nat.le_trans (Nat.pow_le_pow_left hN w) (Nat.le_trans (Nat.pow_le_pow_right (by decide) hw) (by decide))
  generalize hm : xu (xu (xu (xu (xu (xu m 44 3 0) 44 5 0) 44 6 (-1)) 44 8 (Int32.ofNat st)) 44 9 (Int32.ofNat tg)) 44 10 (Int32.ofNat w) = m1
  have row : ∀ i, i ≠ 44 → m1.1 i = m.1 i := fun i hi => by
    rw [← hm, xu_row hi, xu_row hi, xu_row hi, xu_row hi, xu_row hi, xu_row hi]
  have S : stL m1 st tg w [] := by
    rw [← hm]
    refine ⟨⟨?_, ?_, xu_s _ _ _ _⟩, ?_, ⟨?_, (by decide : (0 : Nat) < 64)⟩, ?_⟩
    · rw [xu_o (by decide), xu_o (by decide), xu_s]
    · rw [xu_o (by decide), xu_s]
    · rw [xu_o (by decide), xu_o (by decide), xu_o (by decide), xu_o (by decide), xu_o (by decide), xu_s]
      rfl
    · rw [xu_o (by decide), xu_o (by decide), xu_o (by decide), xu_o (by decide), xu_s]
      rfl
    · show (xu (xu (xu (xu (xu (xu m 44 3 0) 44 5 0) 44 6 (-1)) 44 8 (Int32.ofNat st)) 44 9 (Int32.ofNat tg)) 44 10 (Int32.ofNat w)).1 44 6 = -1
      rw [xu_o (by decide), xu_o (by decide), xu_o (by decide), xu_s]
  have eo : ∀ l : List (List Nat), out [] tg st l = l.filter (fun r => rend st r == tg) := fun l => by
    unfold out
    have : (fun r : List Nat => [] ++ r) = id := rfl
    rw [this, List.map_id]
  obtain ⟨m', d1, d2, d3⟩ := c8r (F := F) hF e0 hN hs htg hw 7 (a := st) (b := 2 ^ st ||| 2 ^ ow) (f := 0) (k := w) (m := m1) (L := []) (pre := []) (by omega) (by omega) hs q2 rfl (fun x hx => by cases hx) (fun j hj => by omega) S (by rw [row 10 (by decide)]; exact Rm) (by rw [List.length_nil]; omega)
  rw [List.nil_append, eo] at d2
  refine ⟨m', ?_, d2, fun i x y z => (d3.1 i x y z).trans (row i x), fun j hj => by omega, d3.2.2.trans (by rw [← hm]; rfl)⟩
  unfold D7_44_9
  rw [if_neg (by rw [zcgt, decide_eq_true_eq]; omega), hm, p1, q1]
  exact ob d1 rfl
end PCLS
