/-! Calls by their specs, in pairs. -/
/-- what holds a symbol's value -/
def ekf (K : List yK) (s : Nat) : Option yK := K.find? (fun t => t.2.2.2.1.2.1 == s)
def er (hp : zHp) (K : List yK) (ys : List Int32) (s : Nat) : Int := match ys[s]? with
  | some y => y.toInt
  | none => match ekf K s with
    | some t => ((xof hp).1 t.1.2.2.toNat t.2.1.2.2.toNat).toInt
    | none => 0
def easl : Nat → Nat → List yV
  | _, 0 => []
  | k, n + 1 => yI (1, k, 0) :: easl (k + 1) n
def eas (c na : Nat) : List yV := (2, yc c, yc 0) :: easl 0 na
def eBok (na n : Nat) (bl : List Nat) (K : List yK) (e : Nat × Int × Int) : Bool := decide (e.1 < n) && (if e.1 < na then (decide (e.2.1 ≤ -2147483648) && decide (2147483647 ≤ e.2.2)) || (bl.any (fun b => b == e.1) && (decide (e.2.1 ≤ 0) && decide (1 ≤ e.2.2))) else match ekf K e.1 with
  | some t => (match xbn t.1.2.2.toNat t.2.1.2.2.toNat with
    | some p => decide (e.2.1 ≤ p.1) && decide (p.2 ≤ e.2.2)
    | none => false)
  | none => decide (e.2.1 ≤ 0) && decide (0 ≤ e.2.2))
def eKok (na n : Nat) (K : List yK) (t : yK) : Bool := t.1.1 == 0 && (decide (0 ≤ t.1.2.2) && (t.2.1.1 == 0 && (decide (0 ≤ t.2.1.2.2) && (t.2.2.1 == 0 && (t.2.2.2.1.1 == 1 && (t.2.2.2.1.2.2 == 0 && (t.2.2.2.2.1 == 0 && (decide (na ≤ t.2.2.2.1.2.1) && (decide (t.2.2.2.1.2.1 < n) && ((xbn t.1.2.2.toNat t.2.1.2.2.toNat).isSome && (match ekf K t.2.2.2.1.2.1 with
  | some u => u.1.2.2 == t.1.2.2 && u.2.1.2.2 == t.2.1.2.2
  | none => false)))))))))))
def eOk (c na : Nat) (bl : List Nat) (P : yS) : Bool := P.2.1.all (eBok na P.1 bl P.2.2.2.1) && (P.2.2.1.isEmpty && (P.2.2.2.1.all (eKok na P.1 P.2.2.2.1) && (decide (P.2.2.2.2.1 = yargs 0 (eas c na)) && (P.2.2.2.2.2.isEmpty && decide (na ≤ P.1)))))
def eQok (q : yS) : Bool := match q.2.2.2.2.2 with
  | [a] => a.1 == 0
  | _ => false
section EPAIR
theorem erd {B : zHp} (H : yH0 B) {i j : Nat} {p : Int × Int} (hp : xbn i j = some p) : yrd B i (j : Int) = some (.int ((xof B).1 i j)) := by
  unfold xbn at hp
  split at hp
  · next h88 =>
    have c := H.2.2 i (Nat.lt_of_lt_of_le h88 H.1)
    split at hp
    · next e0 =>
      unfold yokc at c
      rw [e0] at c
      obtain ⟨fs, e1, -, e3⟩ := c
      split at hp
      · next t ht =>
        obtain ⟨v, v1, v2⟩ := e3 j t ht
        split at hp
        · next t0 =>
          unfold yft at v2
          rw [t0] at v2
          obtain ⟨x, rfl, b⟩ := v2
          unfold yrd xof
          dsimp only
          rw [e1]
          dsimp only
          rw [if_neg (by omega), Int.toNat_natCast, v1]
        · cases hp
      · cases hp
    · next e1 =>
      split at hp
      · next hk =>
        obtain ⟨f, e, b⟩ := xok_a c e1 hk.1
        unfold yrd xof
        dsimp only
        rw [e]
        dsimp only
        rw [if_neg (by omega), Int.toNat_natCast]
      · cases hp
    · cases hp
  · cases hp
theorem easl_ok {h : Nat} {r : Nat → Int} {n : Nat} : ∀ (zs : List Int32) (k : Nat), (∀ i, ∀ z, zs[i]? = some z → r (k + i) = z.toInt ∧ k + i < n) → ystk h r n (easl k zs.length) (zs.map .int)
  | [], k, _ => trivial
  | z :: zs, k, g => by
    have g0 := g 0 z rfl
    refine ⟨⟨⟨Or.inr g0.2, Or.inl rfl⟩, yvI ?_⟩, easl_ok zs (k + 1) (fun i y hy => ?_)⟩
    · show z.toInt = 1 * r k + 0
      have := g0.1
      rw [Nat.add_zero] at this
      omega
    · have := g (i + 1) y hy
      rw [show k + 1 + i = k + (i + 1) by omega]
      exact this
theorem eG {hp : zHp} {c na : Nat} {bl : List Nat} {P : yS} {ys : List Int32} (H : yH0 hp) (h : eOk c na bl P = true) (hl : ys.length = na) (hb : ∀ s ∈ bl, ∀ y, ys[s]? = some y → 0 ≤ y.toInt ∧ y.toInt ≤ 1) : yG hp (er hp P.2.2.2.1 ys) P (lv_args 0 (.ref c :: ys.map .int)) [] := by
  unfold eOk at h
  simp only [Bool.and_eq_true, decide_eq_true_eq] at h
  obtain ⟨h1, h2, h3, h4, h5, h6⟩ := h
  have ein : ∀ s, s < na → ∃ y, ys[s]? = some y ∧ er hp P.2.2.2.1 ys s = y.toInt := fun s hs => by
    refine ⟨ys[s], List.getElem?_eq_getElem (by omega), ?_⟩
    unfold er
    rw [List.getElem?_eq_getElem (by omega)]
  have eout : ∀ s, ¬ s < na → er hp P.2.2.2.1 ys s = (match ekf P.2.2.2.1 s with
    | some t => ((xof hp).1 t.1.2.2.toNat t.2.1.2.2.toNat).toInt
    | none => 0) := fun s hs => by
    unfold er
    rw [List.getElem?_eq_none (by omega)]
  refine ⟨fun e he => ?_, fun x hx => ?_, fun t ht => ?_, ?_, ?_⟩
  · have k := List.all_eq_true.mp h1 e he
    unfold eBok at k
    rw [Bool.and_eq_true] at k
    refine ⟨of_decide_eq_true k.1, ?_⟩
    have k := k.2
    by_cases l : e.1 < na
    · rw [if_pos l] at k
      obtain ⟨y, y1, y2⟩ := ein e.1 l
      rw [y2]
      simp only [Bool.or_eq_true, Bool.and_eq_true, decide_eq_true_eq] at k
      rcases k with k | k
      · have := y32 y
        omega
      · obtain ⟨b, b1, b2⟩ := List.any_eq_true.mp k.1
        have b2 : b = e.1 := by simpa using b2
        subst b2
        have := hb _ b1 y y1
        omega
    · rw [if_neg l] at k
      rw [eout e.1 l]
      cases ek : ekf P.2.2.2.1 e.1 with
      | none =>
        rw [ek] at k
        simp only [Bool.and_eq_true, decide_eq_true_eq] at k
        exact k
      | some t =>
        rw [ek] at k
        dsimp only at k ⊢
        cases ep : xbn t.1.2.2.toNat t.2.1.2.2.toNat with
        | none => rw [ep] at k; cases k
        | some p =>
          rw [ep] at k
          simp only [Bool.and_eq_true, decide_eq_true_eq] at k
          have b := xT_of H _ _ p ep
          omega
  · have h2 : P.2.2.1 = [] := List.isEmpty_iff.mp h2
    rw [h2] at hx
    cases hx
  · have k := List.all_eq_true.mp h3 t ht
    unfold eKok at k
    simp only [Bool.and_eq_true, decide_eq_true_eq, beq_iff_eq] at k
    obtain ⟨k1, k2, k3, k4, k5, k6, k7, k8, k9, k10, k11, k12⟩ := k
    have e1 : ∀ r, yev r t.1 = t.1.2.2 := fun r => by unfold yev; rw [k1]; omega
    have e2 : ∀ r, yev r t.2.1 = t.2.1.2.2 := fun r => by unfold yev; rw [k3]; omega
    obtain ⟨p, hp1⟩ := Option.isSome_iff_exists.mp k11
    refine ⟨⟨Or.inl k1, Or.inl k3, Or.inr k10, Or.inl k8⟩, by rw [e1]; exact k2, .int ((xof hp).1 t.1.2.2.toNat t.2.1.2.2.toNat), ?_, ?_⟩
    · rw [e1, e2]
      have := erd H hp1
      rw [show ((t.2.1.2.2.toNat : Nat) : Int) = t.2.1.2.2 by omega] at this
      exact this
    · unfold yv
      rw [k5]
      refine ⟨_, rfl, ?_⟩
      unfold yev
      rw [k6, k7, eout _ (by omega)]
      cases ek : ekf P.2.2.2.1 t.2.2.2.1.2.1 with
      | none => rw [ek] at k12; cases k12
      | some u =>
        rw [ek] at k12
        simp only [Bool.and_eq_true, beq_iff_eq] at k12
        dsimp only
        rw [k12.1, k12.2]
        omega
  · rw [h4]
    refine yargs_ok (l := eas c na) (as := .ref c :: ys.map .int) (k := 0) ⟨⟨⟨Or.inl rfl, Or.inl rfl⟩, yv_ref (yev_c _ _)⟩, ?_⟩
    rw [← hl]
    refine easl_ok ys 0 (fun i z hz => ?_)
    have hi : i < ys.length := (List.getElem?_eq_some_iff.mp hz).1
    rw [Nat.zero_add]
    obtain ⟨y, y1, y2⟩ := ein i (by omega)
    rw [hz] at y1
    cases y1
    exact ⟨y2, by omega⟩
  · have h5 : P.2.2.2.2.2 = [] := List.isEmpty_iff.mp h5
    rw [h5]
    trivial
theorem ecat : ∀ ys : List Int32, ((ys.map Value.int).map fun v => v.category).sum = ys.length
  | [] => rfl
  | y :: ys => by
    have := ecat ys
    show (Value.int y).category + ((ys.map Value.int).map fun v => v.category).sum = ys.length + 1
    rw [this]
    show 1 + ys.length = _
    omega
theorem eargl : ∀ (l : List yV) (i : Nat), (yargs i l).length = l.length
  | [], _ => rfl
  | a :: l, i => by
    show (yargs _ l).length + 1 = l.length + 1
    rw [eargl l]
theorem easll : ∀ (n k : Nat), (easl k n).length = n
  | 0, _ => rfl
  | n + 1, k => by
    show (easl (k + 1) n).length + 1 = n + 1
    rw [easll n]
/-- a spec used -/
theorem eSp {E : zHp → Prop} {n : Nat} {sp : ySp} (T : yTs E n sp) {c na : Nat} {bl : List Nat} (ck : (eOk c na bl sp.2.2.1 && (decide (n ≤ 20) && (decide (na + 1 ≤ sp.2.1) && sp.2.2.2.1.all eQok))) = true) {hp : zHp} (H : yH0 hp ∧ E hp) {ys : List Int32} (hl : ys.length = na) (hb : ∀ s ∈ bl, ∀ y, ys[s]? = some y → 0 ≤ y.toInt ∧ y.toInt ≤ 1) : ∃ (x : Int32) (z : zHp), zCan 20 sp.1 (.ref c :: ys.map .int) hp (some (.int x), z) ∧ (yH0 z ∧ E z) ∧ yF sp.2.2.2.2 hp z ∧ ∃ q ∈ sp.2.2.2.1, ∃ r2, yag sp.2.2.1.1 (er hp sp.2.2.1.2.2.2.1 ys) r2 ∧ yG z r2 q [] [.int x] := by
  simp only [Bool.and_eq_true, decide_eq_true_eq] at ck
  obtain ⟨c1, c2, c3, c4⟩ := ck
  have h4 : sp.2.2.1.2.2.2.2.1 = yargs 0 (eas c na) := by
    have c1 := c1
    unfold eOk at c1
    simp only [Bool.and_eq_true, decide_eq_true_eq] at c1
    exact c1.2.2.2.1
  obtain ⟨⟨x1, z⟩, hz, hH, hF, q, hq, r2, ag, -, g⟩ := T 20 c2 hp _ (.ref c :: ys.map .int) H (eG H.1 c1 hl hb) (by
    have := ecat ys
    show (Value.ref c).category + ((ys.map Value.int).map fun v => v.category).sum ≤ _
    rw [this]
    show 1 + ys.length ≤ _
    omega) (by
    rw [h4, eargl]
    show (ys.map Value.int).length + 1 = (easl 0 na).length + 1
    rw [easll, List.length_map, hl])
  have k := List.all_eq_true.mp c4 q hq
  have g5 := g.2.2.2.2
  unfold eQok at k
  split at k
  · next a ea =>
    rw [ea] at g5
    obtain ⟨v, m, e1, ⟨-, hv⟩, gm⟩ := ystk_cons g5
    have e2 := ystk_nil gm
    subst e2
    obtain ⟨x, rfl, -⟩ := yvI' (by simpa using k) hv
    have ex : x1 = some (.int x) := by
      cases x1 with
      | none => cases e1
      | some w => cases e1; rfl
    subst ex
    exact ⟨x, z, hz, hH, hF, q, hq, r2, ag, g⟩
  · cases k
theorem eF {M : yM} {a b : zHp} (f : yF M a b) {i j : Nat} (h : yinM M i (j : Int) = false) : (xof b).1 i j = (xof a).1 i j := by
  rw [xof_rd, xof_rd, f.2.2 i j (Or.inr h)]
theorem eK0 {hp : zHp} (H : yH0 hp) : zKd 0 hp = some 10 := by
  have := xkd H (s := xof hp) (ix := 0) (a := 10) (by decide)
  rw [xW_of] at this
  exact this
theorem eK70 {hp : zHp} (H : yH0 hp) : zKd 70 hp = some 11 := by
  have := xkd H (s := xof hp) (ix := 70) (a := 11) (by decide)
  rw [xW_of] at this
  exact this
end EPAIR
/-- a pair of calls: the class first -/
def lP (Iv : zHp → Prop) (kc kr : Nat) (as : List Value) (cm : Bool) : Prop := ∀ hp, Iv hp → ∃ (x1 x2 : Int32) (hp1 hp2 : zHp), zKd 0 hp = some 10 ∧ zKd 70 hp1 = some 11 ∧ zCan 20 kc (.ref 0 :: as) hp (some (.int x1), hp1) ∧ hp.1 ≤ hp1.1 ∧ zCan 20 kr (.ref 70 :: as) hp1 (some (.int x2), hp2) ∧ hp1.1 ≤ hp2.1 ∧ Iv hp2 ∧ (cm = true → x1 = x2)
theorem lP_w {Iv : zHp → Prop} {kc kr : Nat} {as : List Value} {b : Bool} (h : lP Iv kc kr as true) : lP Iv kc kr as b := fun hp hI => by
  obtain ⟨x1, x2, hp1, hp2, a1, a2, a3, a4, a5, a6, a7, a8⟩ := h hp hI
  exact ⟨x1, x2, hp1, hp2, a1, a2, a3, a4, a5, a6, a7, fun _ => a8 rfl⟩
