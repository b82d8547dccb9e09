/-! harvests on the class's side: the same days, but for the day's number and when works were done. -/
def mrg (e s : Nat → Int32) : Nat → Int32 := fun j => if j = 4 ∨ (118 ≤ j ∧ j < 124) then e j else s j
def mok (e s : Nat → Int32) : Prop := (0 ≤ (e 4).toInt ∧ (e 4).toInt ≤ 999) ∧ ∀ w : Nat, (w : Int) < (s 3).toInt → -1 ≤ (e (118 + w)).toInt ∧ (0 ≤ (e (118 + w)).toInt ↔ 0 ≤ (s (118 + w)).toInt)
section PMRG
variable {e s : Nat → Int32} {v : Int32}
theorem mrg_o {j : Nat} (h4 : j ≠ 4) (h : j < 118 ∨ 124 ≤ j) : mrg e s j = s j := if_neg (by omega)
theorem mrg_s {j : Nat} (h : j = 4 ∨ (118 ≤ j ∧ j < 124)) : mrg e s j = e j := if_pos h
theorem mrg_id : mrg s s = s := funext fun j => by unfold mrg; split <;> rfl
theorem mrg_cup {k : Nat} (h4 : k ≠ 4) (h : k < 118 ∨ 124 ≤ k) : cup (mrg e s) k v = mrg e (cup s k v) := funext fun j => by
  by_cases z : j = k
  · subst z
    rw [cup_s, mrg_o h4 h, cup_s]
  · rw [cup_o z]
    unfold mrg
    rw [cup_o z]
theorem mrg_cus {k : Nat} {u : Int32} (h : k = 4 ∨ (118 ≤ k ∧ k < 124)) : cup (mrg e s) k v = mrg (cup e k v) (cup s k u) := funext fun j => by
  by_cases z : j = k
  · subst z
    rw [cup_s, mrg_s h, cup_s]
  · rw [cup_o z]
    unfold mrg
    rw [cup_o z, cup_o z]
theorem phm_mrg {t : Nat} (h : t < 6) : phm (mrg e s) t = phm s t := by
  unfold phm
  rw [mrg_o (by omega) (by omega), mrg_o (by omega) (by omega)]
theorem psh_mrg {t : Nat} {x : Int32} (h : t < 6) : psh (mrg e s) t x = psh s t x := by
  unfold psh psh0 prs
  rw [phm_mrg h, mrg_o (by omega) (by omega), mrg_o (by omega) (by omega), mrg_o (by omega) (by omega), mrg_o (by omega) (by omega)]
theorem pcl_mrg {t h : Nat} (I : vI s) (ht : (t : Int) < (s 2).toInt) (hh : h < 6) : pcl (mrg e s) t h = pcl s t h := by
  have n6 := I_n6 I
  have n2 := I_nt I
  have h3 := (I.2.1 t ht).2.1
  unfold pcl ptr
  rw [mrg_o (by omega) (by omega), mrg_o (by omega) (by omega), mrg_o (by omega) (by omega)]
theorem pdn_mrg {w : Nat} (M : mok e s) (hw : (w : Int) < (s 3).toInt) (h6 : w < 6) : pdn (mrg e s) w = pdn s w := by
  unfold pdn
  rw [mrg_s (by omega)]
  exact decide_eq_decide.mpr (M.2 w hw).2
theorem pfit_mrg {w t : Nat} (ht : t < 6) : pfit (mrg e s) w t = pfit s w t := by
  unfold pfit
  rw [psh_mrg ht, mrg_o (by omega) (by omega), mrg_o (by omega) (by omega), mrg_o (by omega) (by omega), mrg_o (by omega) (by omega), mrg_o (by omega) (by omega)]
theorem any_eq {p q : Nat → Bool} {l : List Nat} (h : ∀ x ∈ l, p x = q x) : l.any p = l.any q := by
  induction l with
  | nil => rfl
  | cons a l ih =>
    rw [List.any_cons, List.any_cons, h a (List.mem_cons_self ..), ih (fun x hx => h x (List.mem_cons_of_mem _ hx))]
theorem pcd_mrg {w : Nat} (I : vI s) (M : mok e s) (hw : (w : Int) < (s 3).toInt) : pcd (mrg e s) w = pcd s w := by
  have n2 := I_nt I
  have n3 := I_nw I
  unfold pcd
  rw [pdn_mrg M hw (by omega), mrg_o (by omega) (by omega), any_eq (q := pfit s w) (fun x hx => pfit_mrg (by have := List.mem_range.mp hx; omega))]
theorem pth_mrg {k : Nat} (h4 : k ≠ 4) (h : k < 118 ∨ 124 ≤ k) : pth (mrg e s) k = mrg e (pth s k) := by
  unfold pth
  rw [mrg_o h4 h]
  split
  · exact mrg_cup h4 h
  · rfl
theorem pld_mrg {t h : Nat} (I : vI s) (ht : (t : Int) < (s 2).toInt) (hh : h < 6) : pld (mrg e s) t h = mrg e (pld s t h) := by
  have n6 := I_n6 I
  have n2 := I_nt I
  have h3 := (I.2.1 t ht).2.1
  unfold pld
  rw [mrg_o (j := 10 + 6 * t + 3) (by omega) (by omega), mrg_o (j := 10 + 6 * t + 4) (by omega) (by omega), pth_mrg (by omega) (by omega), mrg_cup (by omega) (by omega), mrg_cup (by omega) (by omega)]
theorem pgv_mrg {t : Nat} (ht : t < 6) : pgv (mrg e s) t v = mrg e (pgv s t v) := by
  unfold pgv
  rw [mrg_cup (by omega) (by omega), mrg_cup (by omega) (by omega), mrg_cup (by omega) (by omega), mrg_cup (by omega) (by omega)]
theorem pou_mrg {t : Nat} (ht : t < 6) : pou (mrg e s) t = mrg e (pou s t) := by
  unfold pou
  rw [phm_mrg ht, mrg_o (by omega) (by omega)]
  split
  · rfl
  · exact mrg_cup (by omega) (by omega)
theorem pous_mrg : ∀ (n : Nat) {s : Nat → Int32} {t : Nat}, t + n ≤ 6 → pous (mrg e s) t n = mrg e (pous s t n)
  | 0, _, _, _ => rfl
  | n + 1, s, t, h => by
    show pous (pou (mrg e s) t) (t + 1) n = mrg e (pous (pou s t) (t + 1) n)
    rw [pou_mrg (by omega)]
    exact pous_mrg n (by omega)
theorem pdc_mrg (I : vI s) (M : mok e s) : ∃ e', pdc (mrg e s) = mrg e' (pdy s) ∧ mok e' (pdy s) := by
  have n2 := I_nt I
  have n3 := I_nw I
  have k : (e 4 + 1).toInt = (e 4).toInt + 1 := xa1 (by have := M.1; show _ ≤ _ + (1 : Int); omega) (by have := M.1; show _ + (1 : Int) ≤ _; omega)
  have l : (999 : Int32).toInt = 999 := rfl
  refine ⟨cup e 4 (if e 4 + 1 < 999 then e 4 + 1 else 999), ?_, ⟨?_, fun w hw => ?_⟩⟩
  · unfold pdc pdy
    rw [mrg_o (j := 2) (by omega) (by omega), mrg_s (j := 4) (Or.inl rfl), pous_mrg _ (by omega), mrg_cus (Or.inl rfl)]
  · rw [cup_s]
    by_cases c : e 4 + 1 < 999
    · rw [if_pos c, k]
      have c := Int32.lt_iff_toInt_lt.mp c
      have := M.1
      omega
    · rw [if_neg c, l]
      omega
  · rw [pdy_o I (fun i _ => by omega) (by decide)] at hw
    rw [cup_o (by omega), pdy_o I (fun i _ => by omega) (by omega)]
    exact M.2 w hw
theorem fwk_mrg : ∀ (n : Nat) {s e : Nat → Int32} {w : Nat}, vI s → mok e s → ((w + n : Nat) : Int) ≤ (s 3).toInt → ∃ e', fwk w n (mrg e s) = mrg e' (fwk w n s) ∧ mok e' (fwk w n s)
  | 0, _, e, _, _, M, _ => ⟨e, rfl, M⟩
  | n + 1, s, e, w, I, M, hw => by
    have n3 := I_nw I
    show ∃ e', fwk (w + 1) n (if pcd (mrg e s) w = true then pwk (mrg e s) w else mrg e s) = mrg e' (fwk (w + 1) n (if pcd s w = true then pwk s w else s)) ∧ mok e' (fwk (w + 1) n (if pcd s w = true then pwk s w else s))
    rw [pcd_mrg I M (by omega)]
    by_cases c : pcd s w = true
    · rw [if_pos c, if_pos c]
      have ep : pwk (mrg e s) w = mrg (cup e (118 + w) (e 4)) (pwk s w) := by
        unfold pwk
        rw [mrg_s (j := 4) (Or.inl rfl), mrg_cus (u := s 4) (by omega), mrg_o (j := 5) (by omega) (by omega), mrg_o (j := 124 + 4 * w + 3) (by omega) (by omega), mrg_cup (by omega) (by omega)]
      rw [ep]
      refine fwk_mrg n (I_wk I (by omega)) ⟨?_, fun u hu => ?_⟩ (by rw [pwk_k (by decide)]; omega)
      · rw [cup_o (by omega)]
        exact M.1
      · rw [pwk_k (by decide)] at hu
        have d := I_day I
        by_cases z : u = w
        · subst z
          rw [cup_s, show pwk s u (118 + u) = s 4 from (cup_o (by omega)).trans (cup_s _ _ _)]
          have := M.1
          omega
        · rw [cup_o (by omega), show pwk s w (118 + u) = s (118 + u) from (cup_o (by omega)).trans (cup_o (by omega))]
          exact M.2 u hu
    · rw [if_neg c, if_neg c]
      exact fwk_mrg n I M (by omega)
theorem J_mrg (I : vI s) (M : mok e s) : vJD (s 4).toInt (mrg e s) := by
  have lt := I_nt I
  have l := I_nw I
  have e0 : mrg e s 0 = s 0 := mrg_o (by omega) (by omega)
  have e1 : mrg e s 1 = s 1 := mrg_o (by omega) (by omega)
  have e2 : mrg e s 2 = s 2 := mrg_o (by omega) (by omega)
  have e3 : mrg e s 3 = s 3 := mrg_o (by omega) (by omega)
  have e4 : mrg e s 4 = e 4 := mrg_s (Or.inl rfl)
  refine ⟨?_, fun t ht => ?_, fun u hu => ?_, fun b hb => ?_, fun b f hb hf => ?_⟩
  · unfold vIa
    rw [e0, e1, e2, e3, e4]
    exact ⟨I.1.1, I.1.2.1, I.1.2.2.1, I.1.2.2.2.1, M.1.1, by have := M.1; omega⟩
  · rw [e2] at ht
    rw [e0, mrg_o (by omega) (by omega), mrg_o (by omega) (by omega), mrg_o (by omega) (by omega), mrg_o (by omega) (by omega)]
    exact I.2.1 t ht
  · rw [e3] at hu
    rw [e0, mrg_o (by omega) (by omega), mrg_s (by omega)]
    exact ⟨(I.2.2.1 u hu).1, (M.2 u hu).1⟩
  · rw [mrg_o (by omega) (by omega), mrg_o (by omega) (by omega)]
    exact I.2.2.2.1 b hb
  · rw [mrg_o (by omega) (by omega)]
    exact I.2.2.2.2 b f hb hf
theorem mok_s (I : vI9 s) : mok s s := ⟨⟨(I_day I.1).1, I.2⟩, fun w hw => ⟨(I.1.2.2.1 w hw).2, Iff.rfl⟩⟩
theorem lst_3 {t j : Nat} {d : Int} (I : vI s) (ht : (t : Int) < (s 2).toInt) (hd : 0 ≤ d ∧ d < (s 0).toInt + 1) (hj : 118 ≤ j) : lst s t d j = s j := by
  have n6 := I_n6 I
  have n2 := I_nt I
  have h := (I.2.1 t ht).2.1
  unfold lst
  split
  · exact pgv_o (by omega)
  · split
    · rw [pld_o (by omega) (by omega), pth_o (by omega)]
    · rfl
end PMRG
section PCHV
variable {s e : Nat → Int32} {m : xS} {F : Nat}
/-- the trial and the seed alone -/
def kl (m m' : xS) : Prop := (∀ i j, i ≠ 12 → ¬ (i = 43 ∧ j = 0) → m'.1 i j = m.1 i j) ∧ m'.2 = m.2
theorem kl_r (m : xS) : kl m m := ⟨fun _ _ _ _ => rfl, rfl⟩
theorem kl_t {a b c : xS} (h1 : kl a b) (h2 : kl b c) : kl a c := ⟨fun i j h k => (h2.1 i j h k).trans (h1.1 i j h k), h2.2.trans h1.2⟩
theorem kl_x {a : xS} {c : Nat → Int32} : kl a (xr a 12 c) := ⟨fun i j h _ => by rw [xr_o h], rfl⟩
theorem kl_10 {a b : xS} (h : kl a b) : b.1 10 = a.1 10 := funext fun j => h.1 10 j (by decide) (fun z => absurd z.1 (by decide))
theorem c11 (h : hx (m.1 43 0).toInt) : ∃ q Y, D11_43 F m = some (q, xu m 43 0 Y) ∧ q.toInt = lcg (m.1 43 0).toInt / 65536 ∧ Y.toInt = lcg (m.1 43 0).toInt := by
  have e := lcg64 (X := (m.1 43 0).toInt64) (by rw [Int32.toInt_toInt64]; exact h)
  rw [Int32.toInt_toInt64] at e
  have hb := lcg_b (m.1 43 0).toInt
  have l1 : (65536 : Int32).toInt = 65536 := rfl
  unfold D11_43
  generalize ((m.1 43 0).toInt64 * 1103515245 + 12345) - ((m.1 43 0).toInt64 * 1103515245 + 12345) / 2147483648 * 2147483648 = Z at *
  have ez : Z.toInt32.toInt = lcg (m.1 43 0).toInt := by rw [Int64.toInt_toInt32, e, b32 (by omega)]
  exact ⟨_, _, rfl, by rw [Int32.toInt_div, l1, ez, Int.tdiv_eq_ediv_of_nonneg hb.1, b32 (by omega)], ez⟩
theorem drw32 {q k : Int32} (h : 0 ≤ q.toInt ∧ q.toInt < 32768) (hk : 1 ≤ k.toInt ∧ k.toInt ≤ 100) : (q - q / k * k).toInt = q.toInt % k.toInt := by
  have d0 : 0 ≤ q.toInt / k.toInt := Int.ediv_nonneg h.1 (by omega)
  have d1 : q.toInt / k.toInt ≤ q.toInt := Int.ediv_le_self _ h.1
  have d2 : q.toInt / k.toInt * k.toInt ≤ q.toInt := Int.ediv_mul_le _ (by omega)
  have d3 : 0 ≤ q.toInt / k.toInt * k.toInt := Int.mul_nonneg d0 (by omega)
  have e2 : (q / k).toInt = q.toInt / k.toInt := by
    rw [Int32.toInt_div, Int.tdiv_eq_ediv_of_nonneg h.1, b32 (by omega)]
  have e3 : (q / k * k).toInt = q.toInt / k.toInt * k.toInt := by
    rw [Int32.toInt_mul, e2, b32 (by omega)]
  rw [Int32.toInt_sub, e3, b32 (by omega), ems]
theorem c12_4 : ∀ (f : Nat) {s : Nat → Int32} {m : xS} {t : Nat} {v : Int32}, R32 (mrg e s) (m.1 12) → vI s → mok e s → 0 < (s 0).toInt → hx (m.1 43 0).toInt → (t : Int) ≤ (s 2).toInt → 7 - t < f → ∃ m', D12_43_11t_4 F f v (Int32.ofNat t) m = some ((lots t ((s 2).toInt.toNat - t) s (m.1 43 0).toInt v).2.2, m') ∧ R32 (mrg e (lots t ((s 2).toInt.toNat - t) s (m.1 43 0).toInt v).1) (m'.1 12) ∧ mok e (lots t ((s 2).toInt.toNat - t) s (m.1 43 0).toInt v).1 ∧ (m'.1 43 0).toInt = (lots t ((s 2).toInt.toNat - t) s (m.1 43 0).toInt v).2.1 ∧ kl m m' := by
  intro f
  induction f with
  | zero => intro s m t v _ _ _ _ _ _ l; omega
  | succ f ih =>
    intro s m t v R I M s0 hX ht l
    have n6 := I_n6 I
    have n2 := I_nt I
    have et := nJ (n := t) (by omega)
    have J := J_mrg I M
    have e2m : mrg e s 2 = s 2 := mrg_o (by omega) (by omega)
    have e0m : mrg e s 0 = s 0 := mrg_o (by omega) (by omega)
    have r79 := c79_11t (F := F) R
    rw [e2m] at r79
    unfold D12_43_11t_4
    by_cases q : (s 2).toInt ≤ (t : Int)
    · rw [show (s 2).toInt.toNat - t = 0 by omega]
      exact ⟨m, ob r79 (oT (zc.trans (decide_eq_true (by dsimp only; omega))) rfl), R, M, rfl, kl_r m⟩
    · rw [show (s 2).toInt.toNat - t = ((s 2).toInt.toNat - (t + 1)) + 1 by omega]
      have g : zcmp .ge (Int32.ofNat t) (s 2) = false := zc.trans (decide_eq_false (by omega))
      have ek : (s 0 + 1).toInt = (s 0).toInt + 1 := xa1 (by show _ ≤ _ + (1 : Int); omega) (by show _ + (1 : Int) ≤ _; omega)
      have nz : (!(s 0 + 1 == 0)) = true := by
        rw [beq_eq_false_iff_ne.mpr (fun z => by
          have z := congrArg Int32.toInt z
          have l : (0 : Int32).toInt = 0 := rfl
          omega)]
        rfl
      obtain ⟨q13, Y, z1, z2, z3⟩ := c11 (F := F) (m := m) hX
      have hb := lcg_b (m.1 43 0).toInt
      have ed0 := drw32 (q := q13) (k := s 0 + 1) (by omega) (by omega)
      generalize ed : q13 - q13 / (s 0 + 1) * (s 0 + 1) = d at *
      have z4 : d.toInt = drw (m.1 43 0).toInt ((s 0).toInt + 1) := by rw [ed0, z2, ek]; rfl
      have hd := drw_b (x := (m.1 43 0).toInt) (k := (s 0).toInt + 1) (by omega)
      rw [← z4] at hd
      obtain ⟨k, hk⟩ : ∃ k : Nat, d.toInt = (k : Int) := ⟨d.toInt.toNat, by omega⟩
      have edk : d = Int32.ofNat k := ofn_i hk (by omega)
      have J1 : vI (lst s t d.toInt) := lst_I I (by omega) hd
      have e2 : lst s t d.toInt 2 = s 2 := lst_k I (by decide)
      have e0 : lst s t d.toInt 0 = s 0 := lst_k I (by decide)
      have M1 : mok e (lst s t d.toInt) := ⟨M.1, fun w hw => by
        rw [lst_k I (by decide)] at hw
        rw [lst_3 I (by omega) hd (by omega)]
        exact M.2 w hw⟩
      have k1 : kl m (xu m 43 0 Y) := ⟨fun i j _ h => xu_o h, rfl⟩
      have R1 : R32 (mrg e s) ((xu m 43 0 Y).1 12) := by rw [xu_row (by decide)]; exact R
      have r77 : ∀ {m2 : xS}, R32 (mrg e s) (m2.1 12) → D77_11t F m2 = some (s 0, m2) := fun {m2} R2 => by
        have r := c77_11t (F := F) R2
        rw [e0m] at r
        exact r
      show ∃ m' : xS, _ = some ((lots (t + 1) _ (lst s t (drw _ _)) (lcg _) (lct s t (drw _ _) v)).2.2, m') ∧ R32 (mrg e (lots (t + 1) _ (lst s t (drw _ _)) (lcg _) (lct s t (drw _ _) v)).1) (m'.1 12) ∧ mok e (lots (t + 1) _ (lst s t (drw _ _)) (lcg _) (lct s t (drw _ _) v)).1 ∧ (m'.1 43 0).toInt = (lots (t + 1) _ (lst s t (drw _ _)) (lcg _) (lct s t (drw _ _) v)).2.1 ∧ _
      rw [← z4, ← z3]
      have nx : ∀ {m2 : xS}, R32 (mrg e (lst s t d.toInt)) (m2.1 12) → m2.1 43 0 = Y → kl m m2 → ∃ m', D12_43_11t_62 F (D12_43_11t_4 F f) (lct s t d.toInt v) (Int32.ofNat t) d m2 = some ((lots (t + 1) ((s 2).toInt.toNat - (t + 1)) (lst s t d.toInt) Y.toInt (lct s t d.toInt v)).2.2, m') ∧ R32 (mrg e (lots (t + 1) ((s 2).toInt.toNat - (t + 1)) (lst s t d.toInt) Y.toInt (lct s t d.toInt v)).1) (m'.1 12) ∧ mok e (lots (t + 1) ((s 2).toInt.toNat - (t + 1)) (lst s t d.toInt) Y.toInt (lct s t d.toInt v)).1 ∧ (m'.1 43 0).toInt = (lots (t + 1) ((s 2).toInt.toNat - (t + 1)) (lst s t d.toInt) Y.toInt (lct s t d.toInt v)).2.1 ∧ kl m m' := fun {m2} h1 h2 h3 => by
        obtain ⟨m', d1, d2, d3, d4, d5⟩ := ih (s := lst s t d.toInt) (m := m2) (t := t + 1) (v := lct s t d.toInt v) h1 J1 M1 (by rw [e0]; exact s0) (by rw [h2, z3]; exact lcg_b _) (by rw [e2]; omega) (by omega)
        rw [e2, h2] at d1 d2 d3 d4
        refine ⟨m', ?_, d2, d3, d4, kl_t h3 d5⟩
        unfold D12_43_11t_62
        rw [(o1 (n := t) (by omega)).2.2]
        exact d1
      have eY : (xu m 43 0 Y).1 43 0 = Y := xu_s _ _ _ _
      by_cases c : d.toInt = (s 0).toInt
      · have c1 : zcmp .ne d (s 0) = false := (zcni (y := (s 0).toInt) rfl).trans (by rw [decide_eq_true c]; rfl)
        obtain ⟨c', y1, y2⟩ := a103_11t (F := F) (m := xu m 43 0 Y) R1 (t := t) rfl (by omega)
        rw [mrg_o (by omega) (by omega), pgv_mrg (by omega)] at y2
        have el : lst s t d.toInt = pgv s t (s (10 + 6 * t)) := by unfold lst; rw [if_pos c]
        have ec : lct s t d.toInt v = v := by unfold lct; rw [if_pos c]
        obtain ⟨m', d1, d2, d3, d4, d5⟩ := nx (m2 := xr (xu m 43 0 Y) 12 c') (by rw [xr_s, el]; exact y2) (by rw [xr_o (by decide)]; exact eY) (kl_t k1 kl_x)
        refine ⟨m', ob r79 (oF g (ob z1 (ob (r77 R1) (oT nz (ob (r77 R1) (oF (by rw [ed]; exact c1) (ob y1 ?_))))))), d2, d3, d4, d5⟩
        rw [ec] at d1 ⊢
        rw [ed]
        exact d1
      · have c1 : zcmp .ne d (s 0) = true := (zcni (y := (s 0).toInt) rfl).trans (by rw [decide_eq_false c]; rfl)
        have r := c101uj (F := F) (m := xu m 43 0 Y) R1 J (t := t) (h := k) rfl edk (by rw [e2m]; omega) (by omega)
        rw [pcl_mrg I (by omega) (by omega)] at r
        by_cases p : pcl s t k = true
        · have el : lst s t d.toInt = pld s t k := by unfold lst; rw [if_neg c, hk, Int.toNat_natCast, if_pos p]
          have ec : lct s t d.toInt v = v + 1 := by unfold lct; rw [if_neg c, hk, Int.toNat_natCast, if_pos p]
          obtain ⟨c', y1, y2⟩ := a102j (F := F) (m := xu m 43 0 Y) R1 J (t := t) (h := k) rfl edk (by rw [e2m]; omega) (by omega)
          rw [pld_mrg I (by omega) (by omega)] at y2
          obtain ⟨m', d1, d2, d3, d4, d5⟩ := nx (m2 := xr (xu m 43 0 Y) 12 c') (by rw [xr_s, el]; exact y2) (by rw [xr_o (by decide)]; exact eY) (kl_t k1 kl_x)
          refine ⟨m', ob r79 (oF g (ob z1 (ob (r77 R1) (oT nz (ob (r77 R1) (oT (by rw [ed]; exact c1) (ob (by rw [ed]; exact r) (oF (zeF p) (ob (by rw [ed]; exact y1) ?_))))))))), d2, d3, d4, d5⟩
          rw [ec] at d1 ⊢
          rw [ed]
          exact d1
        · have p : pcl s t k = false := by simpa using p
          have el : lst s t d.toInt = s := by unfold lst; rw [if_neg c, hk, Int.toNat_natCast, if_neg (by rw [p]; decide)]
          have ec : lct s t d.toInt v = v := by unfold lct; rw [if_neg c, hk, Int.toNat_natCast, if_neg (by rw [p]; decide)]
          obtain ⟨m', d1, d2, d3, d4, d5⟩ := nx (m2 := xu m 43 0 Y) (by rw [el]; exact R1) eY k1
          refine ⟨m', ob r79 (oF g (ob z1 (ob (r77 R1) (oT nz (ob (r77 R1) (oT (by rw [ed]; exact c1) (ob (by rw [ed]; exact r) (oT (zeT p) ?_)))))))), d2, d3, d4, d5⟩
          rw [ec] at d1 ⊢
          rw [ed]
          exact d1
end PCHV
