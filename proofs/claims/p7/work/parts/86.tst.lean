/-! The reference's tests: the machine does the same. -/
theorem tSe_out (o : Int) : ∀ (ws x y : List Int), (tSe o ws (x ++ y)).1 = (tSe o ws x).1 ++ y ∧ (tSe o ws (x ++ y)).2.1 = (tSe o ws x).2.1 := by
  intro ws
  induction ws with
  | nil => intro x y; exact ⟨rfl, rfl⟩
  | cons w ws ih =>
    intro x y
    by_cases c : tcl o ≤ tcl w
    · have u1 : tSe o (w :: ws) (x ++ y) = ((tSe o ws (w :: (x ++ y))).1, (tSe o ws (w :: (x ++ y))).2.1, (tSe o ws (w :: (x ++ y))).2.2 + (if w = 3 then 1 else 0)) := if_pos c
      have u2 : tSe o (w :: ws) x = ((tSe o ws (w :: x)).1, (tSe o ws (w :: x)).2.1, (tSe o ws (w :: x)).2.2 + (if w = 3 then 1 else 0)) := if_pos c
      rw [u1, u2]
      exact ih (w :: x) y
    · have u1 : tSe o (w :: ws) (x ++ y) = (x ++ y, w :: ws, 0) := if_neg c
      have u2 : tSe o (w :: ws) x = (x, w :: ws, 0) := if_neg c
      rw [u1, u2]
      exact ⟨rfl, rfl⟩
theorem tbr_app : ∀ (Z ws : List Int), (∀ z ∈ Z, 1 ≤ tcl z) → tbr (Z ++ ws) = tbr ws := by
  intro Z
  induction Z with
  | nil => intro ws _; rfl
  | cons z Z ih =>
    intro ws h
    show (if z = 0 then 1 else 0) + tbr (Z ++ ws) = _
    have z0 : z ≠ 0 := fun e => by
      have := h z List.mem_cons_self
      rw [e] at this
      exact absurd this (by decide)
    rw [if_neg z0, Nat.zero_add]
    exact ih ws (fun y hy => h y (List.mem_cons_of_mem _ hy))
theorem twd_eq {b : Nat → Int} {n p q : Nat} (h : tsk b n p = tsk b n q) : twd b n p = twd b n q := by
  have h : tS tbl b n p = tS tbl b n q := h
  unfold twd
  rw [h]
theorem twd_nil {b : Nat → Int} {n p : Nat} (h : ¬ (tsk b n p < n ∧ tlt (b (tsk b n p)) = true)) : twd b n p = [] := by
  unfold twd
  rw [tS_f h, tw_nil]
section RTS
variable {m0 m : xS} {b : Nat → Int} {n t : Nat} {cs : List (Int × Int × Int × Int)} {ln : Int} {F : Nat} {s0 : tSt} {pm0 : Nat} {cl : Nat} {rp ou : List Int}
def rBo (m0 : xS) (b : Nat → Int) (n t : Nat) (cs : List (Int × Int × Int × Int)) (ln : Int) (rp ou : List Int) (s0 : tSt) (pm0 cl pr : Nat) (op : List Int) (wh : Nat) (m : xS) : Prop := okop op ∧ (wh = 2 ∨ wh = 3) ∧ (wh = 2 → topr (tsg b n (tsk b n pr)) = -1) ∧ tdp (op.map teo) ≤ 10 ∧ rY m0 b n t cs op (tdp (op.map teo) : Int) ln rp ou s0 pm0 (op.map teo) cl wh 3 pr m
/-- settles(3) -/
theorem R183a {pr wh : Nat} {op : List Int} (hF : 500 ≤ F) (N : rN m0 b n) (ht : t < 6) (hT : (m0.1 70 11).toInt = (t : Int)) (h : rBo m0 b n t cs ln rp ou s0 pm0 cl pr op wh m) : xP (D176 F 3 m) (fun _ m' => ∃ op', rBo m0 b n t cs ln rp ou s0 pm0 cl pr op' wh m') := by
  have n4 := N.2.1
  obtain ⟨b1, b2, b3, b4, j, pm, k, nu, rc, out, Z, a1, a2, a3, a4, a5, a6, a7, a8, a9⟩ := h
  have rl : rc.length = Z.length + out.length := by
    have := congrArg List.length a6
    rw [List.length_map, List.length_append, List.length_reverse] at this
    exact this
  have prn : pr ≤ n := a9.2.2.1.2
  rw [List.length_map] at a7
  refine xP_m (R176 (o := 3) hF ht hT (by decide) (by decide) a9 b1 (by omega)) (fun _ m' q => ?_)
  obtain ⟨rc', op', c1, c2, c3, c4⟩ := q
  obtain ⟨Nn, d1, d2, d3⟩ := tSe_spl 3 (op.map teo) (rc.map tenc)
  rw [← c3] at d1
  rw [← c2] at d2
  have dd := (tSe_dp (o := 3) (by decide) (op.map teo) (rc.map tenc)).1
  rw [← c3] at dd
  refine ⟨op', c4, b2, b3, by omega, j, pm, k, nu, rc', out, Z ++ Nn, ?_, a2, a3, a4, ?_, ?_, ?_, a8, c1⟩
  · rw [List.append_assoc, ← d1]
    exact a1
  · intro z hz
    rcases List.mem_append.mp hz with hz | hz
    · exact a5 z hz
    · have := d3 z hz
      have e3 : tcl 3 = 3 := rfl
      omega
  · rw [d2, a6, List.reverse_append, List.append_assoc]
  · have ll := congrArg List.length d1
    rw [List.length_append, List.length_map, List.length_map] at ll
    rw [List.length_append, List.length_map]
    exact ⟨a7.1, by omega⟩
/-- the machine behind a fact -/
theorem tjnt_f {pm k wh : Nat} {out wait : List Int} (hw : wh = 2 ∨ wh = 3) (ht : wh = 2 → topr (tsg b n (tsk b n pm)) = -1) : tstp b n (pm, k, out, wait, cl, 3, wh) = tenf b n pm k out wait cl wh := by
  show tjnt b n pm k out wait cl wh = _
  unfold tjnt
  rw [if_neg (fun z => by rcases hw with y | y; exact z.2 (ht y); exact z.1 y), if_neg (by omega), if_neg (by omega)]
abbrev eX (b : Nat → Int) (n pr : Nat) (op : List Int) : Prop := tsk b n pr = pr ∧ (tsg b n pr ≠ 93 ∨ tbr (op.map teo) = 0)
theorem R183_5 (hF : 500 ≤ F) (N : rN m0 b n) (ht : t < 6) (hT : (m0.1 70 11).toInt = (t : Int)) : ∀ (f : Nat) {pr wh : Nat} {op : List Int} {m : xS}, rBo m0 b n t cs ln rp ou s0 pm0 cl pr op wh m → n - pr < f → xP (D183_5 F f m) (fun _ m' => ∃ pr' op' wh', pr ≤ pr' ∧ eX b n pr' op' ∧ rBo m0 b n t cs ln rp ou s0 pm0 cl pr' op' wh' m') := by
  have n4 := N.2.1
  intro f
  induction f with
  | zero => intro pr wh op m _ l; omega
  | succ f ih =>
    intro pr wh op m h l
    obtain ⟨b1, b2, b3, b4, hY⟩ := h
    have id : tsk b n (tsk b n pr) = tsk b n pr := tS_id pr
    have ge : pr ≤ tsk b n pr := tS_ge pr
    unfold D183_5
    refine xP_b (R164y hF N hY) (fun v m1 q1 => ?_)
    obtain ⟨hY, e1⟩ := q1
    dsimp only
    refine xP_i (fun c => xP_r ⟨tsk b n pr, op, wh, ge, ⟨id, Or.inl (fun z => (zt c : v.toInt ≠ 93) (e1.trans z))⟩, b1, b2, by rw [id]; exact b3, b4, hY⟩) (fun c => ?_)
    have c : v.toInt = 93 := Decidable.not_not.mp (zf c)
    have sg : tsg b n (tsk b n pr) = 93 := e1.symm.trans c
    obtain ⟨lt, bs⟩ := tsg_lt sg (by decide)
    have hY0 := hY
    obtain ⟨j, pm, k, nu, rc, out, Z, a1, a2, a3, a4, a5, a6, a7, a8, a9⟩ := hY
    have ea : tsk b n pm = tsk b n pr := by rw [← a4, id]
    refine xP_b (R182 hF a9 b1) (fun r mx q2 => ?_)
    obtain ⟨rfl, q2⟩ := q2
    dsimp only
    refine xP_i (fun d => ?_) (fun d => ?_)
    · have t0 : tbr (op.map teo) = 0 := by
        rcases q2 with ⟨z, -⟩ | ⟨-, z⟩
        · rw [z] at d
          cases d
        · exact z
      exact xP_r ⟨tsk b n pr, op, wh, ge, ⟨id, Or.inr t0⟩, b1, b2, by rw [id]; exact b3, b4, hY0⟩
    · have t0 : tbr (op.map teo) ≠ 0 := by
        rcases q2 with ⟨-, z⟩ | ⟨z, -⟩
        · exact z
        · rw [z] at d
          cases d
      have rl : rc.length = Z.length + out.length := by
        have := congrArg List.length a6
        rw [List.length_map, List.length_append, List.length_reverse] at this
        exact this
      have a7' := a7
      rw [List.length_map] at a7'
      refine xP_b (R176 (o := 1) hF ht hT (by decide) (by decide) a9 b1 (by omega)) (fun _ m2 q => ?_)
      obtain ⟨rc1, op1, c1, c2, c3, c4⟩ := q
      have dd := tSe_dp (o := 1) (by decide) (op.map teo) (rc.map tenc)
      have sl := tSe_len 1 (op.map teo) (rc.map tenc)
      rw [← c3] at dd
      rw [← c2, ← c3, List.length_map, List.length_map, List.length_map, List.length_map] at sl
      cases op1 with
      | nil => exact absurd dd.2 t0
      | cons o0 os =>
        have hd := tSe_hd 1 (op.map teo) (rc.map tenc) (teo o0) (os.map teo) (by rw [← c3]; rfl)
        have o91 := c4 o0 List.mem_cons_self
        obtain ⟨t1, t2, t3, t4, -⟩ := teo_le o91
        have e11 : tcl 1 = 1 := rfl
        have z0 : teo o0 = 0 := by omega
        rw [List.length_cons] at sl
        have ed : tdp ((o0 :: os).map teo) = 1 + tdp (os.map teo) := by
          show (if teo o0 = 0 ∨ teo o0 = 3 then 1 else 0) + tdp (os.map teo) = _
          rw [if_pos (Or.inl z0)]
        rw [ed] at c1 dd
        have h9 := c1.2.2.2.2.2.2.2.2.1.1
        rw [List.length_cons] at h9
        have s1 : ((m2.1 70 16) - 1).toInt = (os.length : Int) := (xs1 (by show _ ≤ _ - (1 : Int); omega) (by show _ - (1 : Int) ≤ _; omega)).trans (by show _ - (1 : Int) = _; omega)
        obtain ⟨hp, -⟩ := rC_pop (v := (m2.1 70 16) - 1) c1 s1
        have h10 := c1.2.2.2.2.2.2.2.2.2.1
        have hq := rC_dp (v := m2.1 70 13 - 1) (x := ((tdp (os.map teo) : Nat) : Int)) hp ((xs1 (by show _ ≤ _ - (1 : Int); omega) (by show _ - (1 : Int) ≤ _; omega)).trans (by rw [h10]; show ((1 + tdp (os.map teo) : Nat) : Int) - 1 = _; omega))
        have h3 := c1.2.2.1
        have hM := rC_T hq (rT_p (v := m2.1 70 8 + 1) (x := tsk b n pr + 1) (rC_t hq) ((xa1 (by show _ ≤ _ + (1 : Int); omega) (by show _ + (1 : Int) ≤ _; omega)).trans (by rw [h3.1]; rfl)) n4 lt)
        have step : tstp b n (pm, k, out ++ ou, Z ++ op.map teo, cl, 3, wh) = .inr (tsk b n pr + 1, k, rc1.map tenc ++ ou, os.map teo, cl, 3, 3) := by
          rw [tjnt_f b2 (fun z => by rw [ea]; exact b3 z)]
          unfold tenf
          have wn : twd b n pm = [] := twd_nil (by rw [ea, bs]; exact fun z => absurd z.2 (by decide))
          rw [wn, show tix ([] : List Int) tw1006 = none by decide]
          dsimp only
          have p1 := tSe_pre 1 Z (op.map teo) (out ++ ou) (fun z hz => by have := a5 z hz; omega)
          have p2 := tSe_out 1 (op.map teo) (Z.reverse ++ out) ou
          rw [tbr_app Z (op.map teo) (fun z hz => by have := a5 z hz; omega), if_neg t0, ea, if_pos sg, p1.1, p1.2, ← List.append_assoc, p2.1, p2.2, ← a6, ← c2, ← c3]
          rfl
        refine xP_b (R183a (pr := tsk b n pr + 1) (wh := 3) (op := os) (s0 := s0) (pm0 := pm0) (cl := cl) (rp := rp) (ou := ou) (cs := cs) (ln := ln) hF N ht hT ⟨fun x hx => c4 x (List.mem_cons_of_mem _ hx), Or.inr rfl, fun z => absurd z (by decide), by omega, j + 1, tsk b n pr + 1, k, nu, rc1, rc1.map tenc, [], (stn_add j a1).trans (stn_1 step), by omega, Nat.le_refl _, rfl, fun z hz => (by cases hz), rfl, ?_, a8, hM⟩) (fun _ m3 q3 => ?_)
        · rw [List.length_map, List.length_map]
          exact ⟨a7'.1, by show rc1.length + ou.length + 0 + os.length + 1 ≤ _; omega⟩
        · obtain ⟨op', q3⟩ := q3
          refine xP_m (ih (pr := tsk b n pr + 1) q3 (by omega)) (fun _ m4 q4 => ?_)
          obtain ⟨pr', op2, wh2, y1, y2⟩ := q4
          exact ⟨pr', op2, wh2, by omega, y2⟩
/-- closes -/
theorem R183 {pr : Nat} (hF : 500 ≤ F) (N : rN m0 b n) (ht : t < 6) (hT : (m0.1 70 11).toInt = (t : Int)) (h : rB m0 b n t cs ln rp ou s0 pm0 cl pr m) : xP (D183 F m) (fun _ m' => ∃ pr' op' wh', pr ≤ pr' ∧ eX b n pr' op' ∧ rBo m0 b n t cs ln rp ou s0 pm0 cl pr' op' wh' m') := by
  have n4 := N.2.1
  obtain ⟨op, wh, h⟩ := h
  unfold D183
  refine xP_b (R183a hF N ht hT h) (fun _ m1 q => ?_)
  obtain ⟨op', q⟩ := q
  exact R183_5 hF N ht hT F q (by omega)
/-- the end of a clause is next: a is put then -/
def rD (m0 : xS) (b : Nat → Int) (n t : Nat) (cs : List (Int × Int × Int × Int)) (ln : Int) (rp ou : List Int) (s0 : tSt) (pm0 cl pr : Nat) (a : Int) (m : xS) : Prop := ∃ (j pm k : Nat) (nu : Int) (rc out wait op : List Int) (wh : Nat) (dp : Int), stn b n j s0 = .inr (pm, k, out ++ ou, wait, cl, 3, wh) ∧ tstp b n (pm, k, out ++ ou, wait, cl, 3, wh) = tendc b n a pm k (out ++ ou) wait cl wh ∧ pm0 + j ≤ pm ∧ pm ≤ pr ∧ tsk b n pr = tsk b n pm ∧ rc.map tenc = (tSe 1 wait out).1 ∧ (tSe 1 wait out).2.1 = [] ∧ (rp.length ≤ ou.length ∧ rc.length + ou.length + 1 ≤ pm) ∧ k ≤ 60 ∧ rC m0 n t pr 0 nu (k : Int) (rc ++ rp) cs op dp ln m
theorem R184_12 (hF : 500 ≤ F) (N : rN m0 b n) (ht : t < 6) (hT : (m0.1 70 11).toInt = (t : Int)) : ∀ (f : Nat) {pr : Nat} {m : xS}, rA m0 b n t cs ln rp ou s0 pm0 cl pr m → n - pr + 1 < f → xP (D184_12 F f 1 m) (fun v m' => (v = 0 ∧ rZ m0 b n s0 pm0 m') ∨ (v = 1 ∧ ∃ pr', rD m0 b n t cs ln rp ou s0 pm0 cl pr' 15 m')) := by
  have n4 := N.2.1
  intro f
  induction f with
  | zero => intro pr m _ l; omega
  | succ f ih =>
    intro pr m h l
    unfold D184_12
    refine xP_i (fun c => absurd c (by decide)) (fun _ => ?_)
    refine xP_b (show xP (D181 F m) _ from R181_2 hF N ht hT F h (by omega)) (fun v m1 q => ?_)
    dsimp only
    rcases q with ⟨rfl, q⟩ | ⟨rfl, pr1, l1, q⟩
    · exact xP_i (fun c => absurd c (by decide)) (fun _ => xP_r (Or.inl ⟨rfl, q⟩))
    refine xP_i (fun _ => ?_) (fun c => absurd c (by decide))
    refine xP_b (R183 hF N ht hT q) (fun _ m2 q2 => ?_)
    obtain ⟨pr2, op, wh, l2, ⟨ex1, ex2⟩, b1, b2, b3, b4, hY⟩ := q2
    obtain ⟨j, pm, k, nu, rc, out, Z, a1, a2, a3, a4, a5, a6, a7, a8, a9⟩ := hY
    have ea : tsk b n pm = pr2 := by rw [← a4, ex1]
    have rl : rc.length = Z.length + out.length := by
      have := congrArg List.length a6
      rw [List.length_map, List.length_append, List.length_reverse] at this
      exact this
    have prn : pr2 ≤ n := a9.2.2.1.2
    have a7' := a7
    rw [List.length_map] at a7'
    have wp : twd b n pr2 = twd b n pm := twd_eq a4
    have jf := tjnt_f (b := b) (n := n) (cl := cl) (pm := pm) (k := k) (wh := wh) (out := out ++ ou) (wait := Z ++ op.map teo) b2 (fun z => by rw [← a4]; exact b3 z)
    have p1 : ∀ o : Int, 1 ≤ tcl o → tcl o ≤ 3 → (tSe o (Z ++ op.map teo) (out ++ ou)).1 = (tSe o (op.map teo) (rc.map tenc)).1 ++ ou ∧ (tSe o (Z ++ op.map teo) (out ++ ou)).2.1 = (tSe o (op.map teo) (rc.map tenc)).2.1 := fun o o1 o3 => by
      have p1 := tSe_pre o Z (op.map teo) (out ++ ou) (fun z hz => by have := a5 z hz; omega)
      have p2 := tSe_out o (op.map teo) (Z.reverse ++ out) ou
      rw [p1.1, p1.2, ← List.append_assoc, p2.1, p2.2, a6]
      exact ⟨rfl, rfl⟩
    have tbz := tbr_app Z (op.map teo) (fun z hz => by have := a5 z hz; omega)
    -- and, or
    have join : ∀ {w0 : Int32} {o : Int} {nu' : Int} {m3 : xS}, (o = 1 ∨ o = 2) → teo w0.toInt = o → (w0.toInt = 12 ∨ w0.toInt = 13) → tenf b n pm k (out ++ ou) (Z ++ op.map teo) cl wh = .inr (tle b n pm, k, (tSe o (Z ++ op.map teo) (out ++ ou)).1, o :: (tSe o (Z ++ op.map teo) (out ++ ou)).2.1, cl, 1, wh) → pr2 + 2 ≤ tle b n pm → rC m0 n t pr2 0 nu' (k : Int) (rc ++ rp) cs op (tdp (op.map teo) : Int) ln m3 → xP (D184_76 F (D184_12 F f) 1 w0 m3) (fun v m' => (v = 0 ∧ rZ m0 b n s0 pm0 m') ∨ (v = 1 ∧ ∃ pr', rD m0 b n t cs ln rp ou s0 pm0 cl pr' 15 m')) := by
      intro w0 o nu' m3 ho ew w12 te lp hM
      have o1 : tcl o = o := by rcases ho with rfl | rfl <;> decide
      unfold D184_76
      refine xP_b (R168 hF (rN_t N hM) (rC_t hM)) (fun _ m4 q4 => ?_)
      have c4 := rC_T hM q4
      have el : tS tlt b n pr2 = tle b n pm := by
        show tS tlt b n pr2 = tS tlt b n (tsk b n pm)
        rw [ea]
      rw [el] at c4
      refine xP_b R175 (fun r5 m5 q5 => ?_)
      obtain ⟨rfl, q5⟩ := q5
      have er : r5.toInt = tcl o := by
        rw [q5, o1, ← ew]
        exact (teo_le (Or.inr (Or.inr w12))).2.2.2.2.2
      refine xP_b (R176 (o := o) hF ht hT er (by omega) c4 b1 (by omega)) (fun _ m6 q6 => ?_)
      obtain ⟨rc1, op1, c1, c2, c3, c5⟩ := q6
      have sl := tSe_len o (op.map teo) (rc.map tenc)
      rw [← c2, ← c3, List.length_map, List.length_map, List.length_map, List.length_map] at sl
      have dd := (tSe_dp (o := o) (by omega) (op.map teo) (rc.map tenc)).1
      rw [← c3] at dd
      have h9 := c1.2.2.2.2.2.2.2.2.1.1
      have ei : (m6.1 70 16).toNatClampNeg = op1.length := by show (m6.1 70 16).toInt.toNat = _; omega
      have tn : tle b n pm ≤ n := c1.2.2.1.2
      dsimp only
      refine xP_g (xib_t (by omega) (by omega)) ?_
      rw [ei]
      have hp := rC_push (v := w0) (u := m6.1 70 16 + 1) c1 (by omega) ((xa1 (by show _ ≤ _ + (1 : Int); omega) (by show _ + (1 : Int) ≤ _; omega)).trans (by rw [h9]; rfl))
      have et : tdp ((w0.toInt :: op1).map teo) = tdp (op1.map teo) := by
        show (if teo w0.toInt = 0 ∨ teo w0.toInt = 3 then 1 else 0) + tdp (op1.map teo) = _
        rw [if_neg (by omega), Nat.zero_add]
      refine ih (pr := tle b n pm) ⟨j + 1, tle b n pm, k, nu', rc1, rc1.map tenc, w0.toInt :: op1, wh, (stn_add j a1).trans (stn_1 (jf.trans ?_)), by omega, Nat.le_refl _, rfl, rfl, ⟨a7'.1, ?_⟩, a8, ?_, by omega, ?_⟩ (by omega)
      · rw [te, (p1 o (by omega) (by omega)).1, (p1 o (by omega) (by omega)).2, ← c2, ← c3, ← ew]
        rfl
      · rw [List.length_map, List.length_cons]
        omega
      · intro x hx
        rcases List.mem_cons.mp hx with rfl | hx
        · exact Or.inr (Or.inr w12)
        · exact c5 x hx
      · rw [et]
        exact hp
    have wlen : ∀ {W : List Int}, twd b n pm = W → tS tlt b n pr2 - pr2 = W.length ∧ tle b n pm = tS tlt b n pr2 := fun {W} e => by
      have z := tw_eq e
      show tS tlt b n pr2 - pr2 = W.length ∧ tS tlt b n (tsk b n pm) = tS tlt b n pr2
      rw [show tS tbl b n pm = pr2 from ea] at z
      rw [ea]
      exact ⟨z, rfl⟩
    refine xP_b (R167 (W := tAnd) (w := 6385252) hF (rN_t N a9) (rC_t a9) (by decide) (by decide) (by decide)) (fun r3 m3 q3 => ?_)
    obtain ⟨q3, e3⟩ := q3
    have c3 := rC_T a9 q3
    rw [ex1] at c3
    rw [wp] at e3
    dsimp only
    refine xP_i (fun c => ?_) (fun c => ?_)
    · have wA : twd b n pm = tAnd := by
        rcases e3 with ⟨-, z⟩ | ⟨z, -⟩
        · exact z
        · rw [z] at c
          cases c
      unfold D184_49 D184_54
      refine xP_i (fun c => absurd c (by decide)) (fun _ => ?_)
      refine xP_b (R167 (W := tAnd) (w := 6385252) hF (rN_t N c3) (rC_t c3) (by decide) (by decide) (by decide)) (fun r4 m4 q4 => ?_)
      obtain ⟨q4, e4⟩ := q4
      have c4 := rC_T c3 q4
      rw [ex1] at c4
      rw [wp] at e4
      dsimp only
      refine xP_i (fun d => ?_) (fun d => ?_)
      · rcases e4 with ⟨z, -⟩ | ⟨-, z⟩
        · rw [z] at d
          cases d
        · exact absurd wA z
      · obtain ⟨w1, w2⟩ := wlen wA
        have : (tAnd : List Int).length = 3 := rfl
        refine join (w0 := 12) (o := 2) (Or.inr rfl) (by decide) (Or.inl rfl) ?_ (by omega) c4
        unfold tenf
        rw [wA, show tix tAnd tw1006 = some 0 by decide]
        rfl
    · have nA : twd b n pm ≠ tAnd := by
        rcases e3 with ⟨z, -⟩ | ⟨-, z⟩
        · rw [z] at c
          cases c
        · exact z
      refine xP_b (R167 (W := tOr) (w := 28530) hF (rN_t N c3) (rC_t c3) (by decide) (by decide) (by decide)) (fun r4 m4 q4 => ?_)
      obtain ⟨q4, e4⟩ := q4
      have c4 := rC_T c3 q4
      rw [ex1] at c4
      rw [wp] at e4
      dsimp only
      refine xP_i (fun d => ?_) (fun d => ?_)
      · have nO : twd b n pm ≠ tOr := by
          rcases e4 with ⟨z, -⟩ | ⟨-, z⟩
          · rw [z] at d
            cases d
          · exact z
        have tn : tix (twd b n pm) tw1006 = none := by
          show tix (twd b n pm) [tAnd, tOr] = none
          rw [tix_ne nA, tix_ne nO]
          rfl
        have tf : tenf b n pm k (out ++ ou) (Z ++ op.map teo) cl wh = (if tbr (op.map teo) = 0 then tendc b n 15 pm k (out ++ ou) (Z ++ op.map teo) cl wh else if tsg b n pr2 = 93 then .inr (tsk b n pm + 1, k, (tSe 1 (Z ++ op.map teo) (out ++ ou)).1, (tSe 1 (Z ++ op.map teo) (out ++ ou)).2.1.tail, cl, 3, 3) else .inl (1 + 8 * (pr2 : Int))) := by
          unfold tenf
          rw [tn]
          dsimp only
          rw [tbz, ea]
        obtain ⟨f', rfl⟩ : ∃ f', f = f' + 1 := ⟨f - 1, by omega⟩
        unfold D184_54
        refine xP_i (fun _ => ?_) (fun c => absurd c (by decide))
        unfold D184_12
        refine xP_i (fun _ => ?_) (fun c => absurd c (by decide))
        refine xP_b (R182 hF c4 b1) (fun r5 mx q5 => ?_)
        obtain ⟨rfl, q5⟩ := q5
        dsimp only
        refine xP_i (fun g => ?_) (fun g => ?_)
        · have t0 : tbr (op.map teo) = 0 := by
            rcases q5 with ⟨z, -⟩ | ⟨-, z⟩
            · rw [z] at g
              cases g
            · exact z
          refine xP_b (R176 (o := 1) hF ht hT (by decide) (by decide) c4 b1 (by omega)) (fun _ m6 q6 => ?_)
          obtain ⟨rc1, op1, d1, d2, d3, d4⟩ := q6
          have sl := tSe_len 1 (op.map teo) (rc.map tenc)
          have dd := (tSe_dp (o := 1) (by decide) (op.map teo) (rc.map tenc)).2
          have hd := tSe_hd 1 (op.map teo) (rc.map tenc)
          rw [← d3] at dd hd
          have o10 : op1 = [] := by
            cases op1 with
            | nil => rfl
            | cons o0 os =>
              exfalso
              have z := hd (teo o0) (os.map teo) rfl
              obtain ⟨t1, t2, t3, t4, -⟩ := teo_le (d4 o0 List.mem_cons_self)
              have e11 : tcl 1 = 1 := rfl
              have z0 : teo o0 = 0 := by omega
              rw [t0] at dd
              exact (tbr_0 _).mp dd.symm (teo o0) List.mem_cons_self z0
          have pp := tSe_pre 1 Z (op.map teo) out (fun z hz => by have := a5 z hz; have e11 : tcl 1 = 1 := rfl; omega)
          refine xP_r (Or.inr ⟨rfl, pr2, j, pm, k, _, rc1, out, Z ++ op.map teo, op1, wh, _, a1, jf.trans (tf.trans (if_pos t0)), a2, a3, a4, ?_, ?_, ⟨a7'.1, ?_⟩, a8, d1⟩)
          · rw [pp.1, ← a6]
            exact d2
          · rw [pp.2, ← a6, ← d3, o10]
            rfl
          · rw [← d2, ← d3, List.length_map, List.length_map, List.length_map, List.length_map] at sl
            omega
        · have t0 : tbr (op.map teo) ≠ 0 := by
            rcases q5 with ⟨-, z⟩ | ⟨z, -⟩
            · exact z
            · rw [z] at g
              cases g
          have s93 : tsg b n pr2 ≠ 93 := by
            rcases ex2 with z | z
            · exact z
            · exact absurd z t0
          refine xP_b (R164 hF (rN_t N c4) (rC_t c4)) (fun v6 m6 q6 => ?_)
          have c6 := rC_T c4 q6.1
          rw [show tS tbl b n pr2 = pr2 from ex1] at c6
          have h36 := c6.2.2.1
          dsimp only
          refine xP_b (R163c c6 (by omega) (by omega) (by decide) (by decide)) (fun r7 m7 q7 => ?_)
          obtain ⟨rfl, q7⟩ := q7
          refine xP_g (show xbo (0 : Int32) = true by decide) (xP_r (Or.inl ⟨rfl, j + 1, 1 + 8 * (pr2 : Int), by omega, (stn_add j a1).trans (stn_1 (jf.trans (tf.trans ((if_neg t0).trans (if_neg s93))))), by omega, ?_⟩))
          rw [h36.1, show (1 + 8 * (pr2 : Int) + (0 : Int32).toInt) = 1 + 8 * (pr2 : Int) from Int.add_zero _] at q7
          exact ⟨_, _, _, _, _, _, _, _, _, _, hT, q7⟩
      · have wO : twd b n pm = tOr := by
          rcases e4 with ⟨-, z⟩ | ⟨z, -⟩
          · exact z
          · rw [z] at d
            cases d
        unfold D184_49 D184_54
        refine xP_i (fun c => absurd c (by decide)) (fun _ => ?_)
        refine xP_b (R167 (W := tAnd) (w := 6385252) hF (rN_t N c4) (rC_t c4) (by decide) (by decide) (by decide)) (fun r5 m5 q5 => ?_)
        obtain ⟨q5, e5⟩ := q5
        have c5 := rC_T c4 q5
        rw [ex1] at c5
        rw [wp] at e5
        dsimp only
        refine xP_i (fun d => ?_) (fun d => ?_)
        · obtain ⟨w1, w2⟩ := wlen wO
          have : (tOr : List Int).length = 2 := rfl
          refine join (w0 := 13) (o := 1) (Or.inl rfl) (by decide) (Or.inr rfl) ?_ (by omega) c5
          unfold tenf
          rw [wO, show tix tOr tw1006 = some 1 by decide]
          rfl
        · rcases e5 with ⟨-, z⟩ | ⟨z, -⟩
          · exact absurd z nA
          · rw [z] at d
            cases d
end RTS
