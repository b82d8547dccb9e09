/-! The reference's sums and facts with a sign: the machine does the same. -/
section RCM
variable {m0 m : xS} {b : Nat → Int} {n t : Nat} {cs : List (Int × Int × Int × Int)} {op : List Int} {dp ln : Int} {F : Nat} {s0 : tSt} {pm0 : Nat} {Wt : List Int} {cl wh : Nat} {rp ou : List Int}
theorem rY_lo {lo lo' : Int} {pr : Nat} (h : lo' ≤ lo) (z : rY m0 b n t cs op dp ln rp ou s0 pm0 Wt cl wh lo pr m) : rY m0 b n t cs op dp ln rp ou s0 pm0 Wt cl wh lo' pr m := by
  obtain ⟨j, pm, k, nu, rc, out, Z, a1, a2, a3, a4, a5, a6⟩ := z
  exact ⟨j, pm, k, nu, rc, out, Z, a1, a2, a3, a4, fun y hy => Int.le_trans h (a5 y hy), a6⟩
/-- the reference puts what waits last -/
theorem R172y {o lo lo' : Int} {w0 : Int32} {pr : Nat} {s1 : tSt} {pm1 : Nat} (N : rN m0 b n) (ht : t < 6) (hT : (m0.1 70 11).toInt = (t : Int)) (h : rY m0 b n t cs op dp ln rp ou s1 pm1 (o :: Wt) cl wh lo pr m) (ho : lo' ≤ tcl o) (hlo : lo' ≤ lo) (hc : tenc (w0 + 16 * 0 : Int32).toInt = o) : xP (D172 F w0 0 m) (fun _ m' => rY m0 b n t cs op dp ln rp ou s1 pm1 Wt cl wh lo' pr m') := by
  have n4 := N.2.1
  obtain ⟨j, pm, k, nu, rc, out, Z, a1, a2, a3, a4, a5, a6, a7, a8, a9⟩ := h
  have prn : pr ≤ n := a9.2.2.1.2
  have rl : rc.length = Z.length + out.length := by
    have := congrArg List.length a6
    rw [List.length_map, List.length_append, List.length_reverse] at this
    exact this
  rw [List.length_cons] at a7
  refine xP_m (R172 (s := w0) (v := 0) (c := (w0 + 16 * 0 : Int32).toInt) ht hT a9 (by rw [List.length_append]; omega) rfl) (fun _ m3 q3 => ⟨j, pm, k, nu, (w0 + 16 * 0 : Int32).toInt :: rc, out, Z ++ [o], ?_, a2, a3, a4, ?_, ?_, ?_, a8, q3.1⟩)
  · rw [List.append_assoc]
    exact a1
  · intro y hy
    rcases List.mem_append.mp hy with hy | hy
    · exact Int.le_trans hlo (a5 y hy)
    · rw [List.mem_singleton.mp hy]
      exact ho
  · rw [List.map_cons, hc, a6, List.reverse_append]
    rfl
  · rw [List.length_append, List.length_singleton]
    exact ⟨a7.1, by omega⟩
theorem R179_46 {o : Int} {w0 : Int32} {pr : Nat} {g : xS → Option (Int32 × xS)} (hF : 500 ≤ F) (N : rN m0 b n) (ht : t < 6) (hT : (m0.1 70 11).toInt = (t : Int)) (hw : wh ≠ 3) (hst : ∀ w vs, Wt = w :: vs → tcl w < 9) (h : rY m0 b n t cs op dp ln rp ou s0 pm0 Wt cl wh 9 pr m) (ps : tsk b n pr = pr) (ho : topr (tsg b n pr) = o) (o1 : tcl o = 9) (o2 : o ≠ -1) (lt : pr < n) (hc : tenc (w0 + 16 * 0 : Int32).toInt = o) (IH : ∀ m' pr', rY m0 b n t cs op dp ln rp ou s0 pm0 Wt cl wh 9 pr' m' → cT (tsg b n (tsk b n pr')) → pr < pr' → xP (g m') (rX m0 b n t cs op dp ln rp ou s0 pm0 Wt cl wh 9 cS)) : xP (D179_46 F g w0 m) (rX m0 b n t cs op dp ln rp ou s0 pm0 Wt cl wh 9 cS) := by
  have n4 := N.2.1
  obtain ⟨j, pm, k, nu, rc, out, Z, a1, a2, a3, a4, a5, a6, a7, a8, a9⟩ := h
  have h3 := a9.2.2.1
  have hM := rC_T a9 (rT_p (v := m.1 70 8 + 1) (x := pr + 1) (rC_t a9) ((xa1 (by show _ ≤ _ + (1 : Int); omega) (by show _ + (1 : Int) ≤ _; omega)).trans (by rw [h3.1]; rfl)) n4 lt)
  have ea : tsk b n pm = pr := by rw [← a4, ps]
  have step : tstp b n (pm, k, out ++ ou, Z ++ Wt, cl, 3, wh) = .inr (pr + 1, k, (Z.reverse ++ out) ++ ou, o :: Wt, cl, 2, wh) := by
    have e2 := tSe_app (o := o) (ws := Wt) (by rw [o1]; exact hst) Z (out ++ ou) (by rw [o1]; exact a5)
    show tjnt b n pm k (out ++ ou) (Z ++ Wt) cl wh = _
    unfold tjnt
    rw [ea, ho, if_pos ⟨hw, o2⟩, e2.1, e2.2, List.append_assoc]
  have st2 : stn b n (j + 1) s0 = .inr (pr + 1, k, (Z.reverse ++ out) ++ ou, o :: Wt, cl, 2, wh) := (stn_add j a1).trans (stn_1 step)
  unfold D179_46
  refine xP_b (R178 (s0 := (pr + 1, k, (Z.reverse ++ out) ++ ou, o :: Wt, cl, 2, wh)) (pm0 := pr + 1) (pm := pr + 1) (pr := pr + 1) (Wt := o :: Wt) (cl := cl) (wh := wh) hF N ht hT hw (fun w vs z => by rw [← (List.cons.inj z).1, o1]; decide) rfl (Nat.le_refl _) (Nat.le_refl _) rfl a6 (by rw [List.length_append, List.length_reverse, List.length_cons]; exact ⟨a7.1, by omega⟩) a8 hM) (fun v m2 q => ?_)
  dsimp only
  rcases q with ⟨rfl, q⟩ | ⟨rfl, pr', c1, q⟩
  · exact xP_i (fun c => absurd c (by decide)) (fun _ => xP_r (Or.inl ⟨rfl, rZ_tr st2 (by omega) q⟩))
  · refine xP_i (fun _ => ?_) (fun c => absurd c (by decide))
    have lp : pr < pr' := by
      obtain ⟨j2, pm2, k2, nu2, rc2, out2, Z2, -, y2, y3, -⟩ := q
      omega
    refine xP_b (R172y (lo' := 9) N ht hT q (by rw [o1]; decide) (by decide) hc) (fun _ m3 q3 => ?_)
    exact IH m3 pr' (rY_tr st2 (by omega) q3) c1 lp
theorem R179_9 (hF : 500 ≤ F) (N : rN m0 b n) (ht : t < 6) (hT : (m0.1 70 11).toInt = (t : Int)) (hw : wh ≠ 3) (hst : ∀ w vs, Wt = w :: vs → tcl w < 9) : ∀ (f : Nat) {pr : Nat} {m : xS}, rY m0 b n t cs op dp ln rp ou s0 pm0 Wt cl wh 9 pr m → cT (tsg b n (tsk b n pr)) → n - pr < f → xP (D179_9 F f m) (rX m0 b n t cs op dp ln rp ou s0 pm0 Wt cl wh 9 cS) := by
  intro f
  induction f with
  | zero => intro pr m _ _ l; omega
  | succ f ih =>
    intro pr m h hT1 l
    have n4 := N.2.1
    have id : tsk b n (tsk b n pr) = tsk b n pr := tS_id pr
    have ge : pr ≤ tsk b n pr := tS_ge pr
    have go : ∀ {m' : xS}, rY m0 b n t cs op dp ln rp ou s0 pm0 Wt cl wh 9 (tsk b n pr) m' → (tsg b n (tsk b n pr) = 43 ∨ tsg b n (tsk b n pr) = 45) → xP (D179_27 F (D179_9 F f) m') (rX m0 b n t cs op dp ln rp ou s0 pm0 Wt cl wh 9 cS) := fun {m'} hh ho => by
      have lt : tsk b n pr < n ∧ b (tsk b n pr) = tsg b n (tsk b n pr) := by
        rcases ho with z | z
        · exact ⟨(tsg_lt z (by decide)).1, (tsg_lt z (by decide)).2.trans z.symm⟩
        · exact ⟨(tsg_lt z (by decide)).1, (tsg_lt z (by decide)).2.trans z.symm⟩
      have IH : ∀ m2 pr2, rY m0 b n t cs op dp ln rp ou s0 pm0 Wt cl wh 9 pr2 m2 → cT (tsg b n (tsk b n pr2)) → tsk b n pr < pr2 → xP (D179_9 F f m2) (rX m0 b n t cs op dp ln rp ou s0 pm0 Wt cl wh 9 cS) := fun m2 pr2 h2 c2 l2 => ih h2 c2 (by omega)
      have h0 := hh
      obtain ⟨j, pm, k, nu, rc, out, Z, a1, a2, a3, a4, a5, a6, a7, a8, a9⟩ := hh
      have h3 := a9.2.2.1
      have xi : xib (m'.1 70 8) 400 = true := xib_t (by omega) (by omega)
      unfold D179_27
      rw [rC_i a9]
      refine xP_g xi (xP_i (fun c => ?_) (fun c => ?_))
      · have c : (m'.1 71 (tsk b n pr)).toInt ≠ 43 := zt c
        have e : tsg b n (tsk b n pr) = 45 := by
          rcases ho with z | z
          · exact absurd ((rbyte N a9 lt.1 (by decide)).mpr (lt.2.trans z)) c
          · exact z
        exact R179_46 (o := 10) hF N ht hT hw hst h0 id (by rw [e]; decide) (by decide) (by decide) lt.1 (by decide) IH
      · have c : (m'.1 71 (tsk b n pr)).toInt = 43 := Decidable.not_not.mp (zf c)
        have e : tsg b n (tsk b n pr) = 43 := lt.2.symm.trans ((rbyte N a9 lt.1 (by decide)).mp c)
        exact R179_46 (o := 9) hF N ht hT hw hst h0 id (by rw [e]; decide) (by decide) (by decide) lt.1 (by decide) IH
    unfold D179_9
    refine xP_b (R164y hF N h) (fun v1 m1 q1 => ?_)
    obtain ⟨q1, e1⟩ := q1
    dsimp only
    refine xP_i (fun c => go q1 (Or.inl (e1.symm.trans (zt c)))) (fun c => ?_)
    refine xP_b (R164y hF N q1) (fun v2 m2 q2 => ?_)
    rw [id] at q2
    obtain ⟨q2, e2⟩ := q2
    dsimp only
    refine xP_i (fun d => xP_r (Or.inr ⟨rfl, tsk b n pr, ?_, q2⟩)) (fun d => ?_)
    · have c : v1.toInt ≠ 43 := zf c
      have d : v2.toInt ≠ 45 := zt d
      rw [id]
      show topr (tsg b n (tsk b n pr)) = -1
      unfold topr
      rw [if_neg (fun z => c (e1.trans z)), if_neg (fun z => d (e2.trans z)), if_neg hT1.1, if_neg hT1.2.1, if_neg hT1.2.2]
    · have d : v2.toInt = 45 := Decidable.not_not.mp (zf d)
      exact go q2 (Or.inr (e2.symm.trans d))
/-- sum -/
theorem R179 {pm pr k : Nat} {nu : Int} {rc out : List Int} (hF : 500 ≤ F) (N : rN m0 b n) (ht : t < 6) (hT : (m0.1 70 11).toInt = (t : Int)) (hw : wh ≠ 3) (hst : ∀ w vs, Wt = w :: vs → tcl w < 9) (hs : tstp b n s0 = tvs b n pm k (out ++ ou) Wt cl wh) (l0 : pm0 ≤ pm) (l1 : pm ≤ pr) (e : tsk b n pr = tsk b n pm) (hr : rc.map tenc = out) (hl : rp.length ≤ ou.length ∧ out.length + ou.length + Wt.length + 1 ≤ pm) (hk : k ≤ 60) (h : rC m0 n t pr 0 nu (k : Int) (rc ++ rp) cs op dp ln m) : xP (D179 F m) (rX m0 b n t cs op dp ln rp ou s0 pm0 Wt cl wh 9 cS) := by
  have n4 := N.2.1
  unfold D179
  refine xP_b (R178 hF N ht hT hw (fun w vs z => by have := hst w vs z; omega) hs l0 l1 e hr hl hk h) (fun v m2 q => ?_)
  dsimp only
  rcases q with ⟨rfl, q⟩ | ⟨rfl, pr', c1, q⟩
  · exact xP_i (fun c => absurd c (by decide)) (fun _ => xP_r (Or.inl ⟨rfl, q⟩))
  · refine xP_i (fun _ => ?_) (fun c => absurd c (by decide))
    exact R179_9 hF N ht hT hw hst F (rY_lo (by decide) q) c1 (by omega)
/-- behind a sign -/
theorem R180_152 {o : Int} {w0 : Int32} {q k : Nat} {nu : Int} {rc out : List Int} {a1 a2 a3 : Int32} (hF : 500 ≤ F) (N : rN m0 b n) (ht : t < 6) (hT : (m0.1 70 11).toInt = (t : Int)) {j : Nat} (hst : ∀ w vs, Wt = w :: vs → tcl w < 4) (st : stn b n j s0 = .inr (q, k, out ++ ou, o :: Wt, cl, 2, 2)) (l0 : pm0 + j ≤ q) (o1 : tcl o = 4) (hr : rc.map tenc = out) (hl : rp.length ≤ ou.length ∧ out.length + ou.length + Wt.length + 2 ≤ q) (hk : k ≤ 60) (hc : tenc (6 + w0 + 16 * 0 : Int32).toInt = o) (h : rC m0 n t q 0 nu (k : Int) (rc ++ rp) cs op dp ln m) : xP (D180_152 F a1 a2 a3 w0 m) (rX m0 b n t cs op dp ln rp ou s0 pm0 Wt cl 2 4 cS) := by
  unfold D180_152
  refine xP_b (R179 (s0 := (q, k, out ++ ou, o :: Wt, cl, 2, 2)) (pm0 := q) (pm := q) (pr := q) (Wt := o :: Wt) (cl := cl) (wh := 2) hF N ht hT (by decide) (fun w vs z => by rw [← (List.cons.inj z).1, o1]; decide) rfl (Nat.le_refl _) (Nat.le_refl _) rfl hr (by rw [List.length_cons]; exact ⟨hl.1, by omega⟩) hk h) (fun v m2 z => ?_)
  dsimp only
  rcases z with ⟨rfl, z⟩ | ⟨rfl, pr', c1, z⟩
  · exact xP_i (fun c => absurd c (by decide)) (fun _ => xP_r (Or.inl ⟨rfl, rZ_tr st l0 z⟩))
  · refine xP_i (fun _ => ?_) (fun c => absurd c (by decide))
    refine xP_b (R172y (lo' := 4) N ht hT z (by rw [o1]; decide) (by decide) hc) (fun _ m3 q3 => xP_r (Or.inr ⟨rfl, pr', c1, rY_tr st l0 q3⟩))
/-- compare -/
theorem R180 {pm pr k : Nat} {nu : Int} {rc out : List Int} (hF : 500 ≤ F) (N : rN m0 b n) (ht : t < 6) (hT : (m0.1 70 11).toInt = (t : Int)) (hst : ∀ w vs, Wt = w :: vs → tcl w < 4) (hs : tstp b n s0 = tvs b n pm k (out ++ ou) Wt cl 1) (l0 : pm0 ≤ pm) (l1 : pm ≤ pr) (e : tsk b n pr = tsk b n pm) (hr : rc.map tenc = out) (hl : rp.length ≤ ou.length ∧ out.length + ou.length + Wt.length + 1 ≤ pm) (hk : k ≤ 60) (h : rC m0 n t pr 0 nu (k : Int) (rc ++ rp) cs op dp ln m) : xP (D180 F m) (rX m0 b n t cs op dp ln rp ou s0 pm0 Wt cl 2 4 cS) := by
  have n4 := N.2.1
  unfold D180
  refine xP_b (R179 hF N ht hT (by decide) (fun w vs z => by have := hst w vs z; omega) hs l0 l1 e hr hl hk h) (fun v m2 q => ?_)
  dsimp only
  rcases q with ⟨rfl, q⟩ | ⟨rfl, pr1, c1, q⟩
  · exact xP_i (fun c => absurd c (by decide)) (fun _ => xP_r (Or.inl ⟨rfl, q⟩))
  · refine xP_i (fun _ => ?_) (fun c => absurd c (by decide))
    refine xP_b (R164y hF N q) (fun v1 m1 q1 => ?_)
    obtain ⟨q1, e1⟩ := q1
    have id : tsk b n (tsk b n pr1) = tsk b n pr1 := tS_id pr1
    generalize hs1 : tsk b n pr1 = s at *
    obtain ⟨j, pm1, k1, nu1, rc1, out1, Z, a1, a2, a3, a4, a5, a6, a7, a8, a9⟩ := q1
    have h3 := a9.2.2.1
    have ea : tsk b n pm1 = s := by rw [← a4, id]
    have cS1 : topr (tsg b n s) = -1 := c1
    have jn : tstp b n (pm1, k1, out1 ++ ou, Z ++ Wt, cl, 3, 1) = tsig b n pm1 k1 (out1 ++ ou) (Z ++ Wt) cl := by
      show tjnt b n pm1 k1 (out1 ++ ou) (Z ++ Wt) cl 1 = _
      unfold tjnt
      rw [ea, if_neg (fun z => z.2 cS1)]
      rfl
    have cut : ∀ o : Int, tcl o = 4 → (tSe o (Z ++ Wt) (out1 ++ ou)).1 = (Z.reverse ++ out1) ++ ou ∧ (tSe o (Z ++ Wt) (out1 ++ ou)).2.1 = Wt := fun o ho => by
      rw [List.append_assoc]
      exact tSe_app (by rw [ho]; exact hst) Z (out1 ++ ou) (fun z hz => by rw [ho]; have := a5 z hz; omega)
    have rest : ∀ {v3 w0 : Int32} {o : Int} {q2 : Nat} {m : xS}, (tsg b n s = 60 ∨ tsg b n s = 61 ∨ tsg b n s = 62) → tcl o = 4 → tenc (6 + w0 + 16 * 0 : Int32).toInt = o → s + 1 ≤ q2 → (¬ 60 ≤ k1 → tsig b n pm1 k1 (out1 ++ ou) (Z ++ Wt) cl = .inr (q2, k1 + 1, (Z.reverse ++ out1) ++ ou, o :: Wt, cl, 2, 2)) → rC m0 n t q2 0 nu1 ((k1 + 1 : Nat) : Int) (rc1 ++ rp) cs op dp ln m → ¬ 60 ≤ k1 → xP (D180_152 F v1 (m1.1 70 8) v3 w0 m) (rX m0 b n t cs op dp ln rp ou s0 pm0 Wt cl 2 4 cS) := fun {v3 w0 o q2 m} cs' o1 hc lq ts hM z => R180_152 (j := j + 1) hF N ht hT hst ((stn_add j a1).trans (stn_1 (jn.trans (ts z)))) (by omega) o1 a6 (by rw [List.length_append, List.length_reverse]; exact ⟨a7.1, by omega⟩) (by omega) hc hM
    have r105 : ∀ {v3 : Int32} {q2 : Nat} {m : xS}, (tsg b n s = 60 ∨ tsg b n s = 61 ∨ tsg b n s = 62) → v1.toInt = tsg b n s → s + 1 ≤ q2 → (¬ 60 ≤ k1 → tsig b n pm1 k1 (out1 ++ ou) (Z ++ Wt) cl = .inr (q2, k1 + 1, (Z.reverse ++ out1) ++ ou, (if tsg b n s = 60 then (if v3 = 0 then 4 else 5) else if tsg b n s = 61 then 6 else if v3 = 0 then 8 else 7) :: Wt, cl, 2, 2)) → rC m0 n t q2 0 nu1 (k1 : Int) (rc1 ++ rp) cs op dp ln m → xP (D180_105 F v1 (m1.1 70 8) v3 m) (rX m0 b n t cs op dp ln rp ou s0 pm0 Wt cl 2 4 cS) := by
      intro v3 q2 m cc ev lq ts hM
      unfold D180_105
      refine xP_b (R173 (a := m1.1 70 8) hM a8 (by omega) (by omega)) (fun r m5 q5 => ?_)
      dsimp only
      rcases q5 with ⟨z, rfl, q5⟩ | ⟨z, rfl, q5⟩
      · refine xP_i (fun c => absurd c (by decide)) (fun _ => xP_r (Or.inl ⟨rfl, j + 1, 1 + 8 * (s : Int) + 3, by omega, ?_, by omega, ?_⟩))
        · refine (stn_add j a1).trans (stn_1 (jn.trans ?_))
          unfold tsig
          rw [ea, if_pos cc, if_pos z]
        · rw [h3.1] at q5
          exact ⟨_, _, _, _, _, _, _, _, _, _, hT, q5⟩
      · refine xP_i (fun _ => ?_) (fun c => absurd c (by decide))
        refine xP_i (fun c => ?_) (fun c => ?_)
        · have c : v1.toInt ≠ 60 := zt c
          rw [if_neg (fun y => c (ev.trans y))] at ts
          refine xP_i (fun d => ?_) (fun d => ?_)
          · have d : v1.toInt ≠ 61 := zt d
            rw [if_neg (fun y => d (ev.trans y))] at ts
            refine xP_i (fun g => ?_) (fun g => ?_)
            · rw [if_pos (zeq g)] at ts
              exact rest cc (by decide) (by decide) lq ts q5 z
            · rw [if_neg (zneq g)] at ts
              exact rest cc (by decide) (by decide) lq ts q5 z
          · have d : v1.toInt = 61 := Decidable.not_not.mp (zf d)
            rw [if_pos (ev.symm.trans d)] at ts
            exact rest cc (by decide) (by decide) lq ts q5 z
        · have c : v1.toInt = 60 := Decidable.not_not.mp (zf c)
          rw [if_pos (ev.symm.trans c)] at ts
          refine xP_i (fun g => ?_) (fun g => ?_)
          · rw [if_pos (zeq g)] at ts
            exact rest cc (by decide) (by decide) lq ts q5 z
          · rw [if_neg (zneq g)] at ts
            exact rest cc (by decide) (by decide) lq ts q5 z
    have r44 : (tsg b n s = 60 ∨ tsg b n s = 61 ∨ tsg b n s = 62) → v1.toInt = tsg b n s → xP (D180_44 F v1 (m1.1 70 8) m1) (rX m0 b n t cs op dp ln rp ou s0 pm0 Wt cl 2 4 cS) := by
      intro cc ev
      have ls : s < n := by
        rcases cc with z | z | z
        · exact (tsg_lt z (by decide)).1
        · exact (tsg_lt z (by decide)).1
        · exact (tsg_lt z (by decide)).1
      have e8 : (m1.1 70 8 + 1).toInt = ((s + 1 : Nat) : Int) := (xa1 (by show _ ≤ _ + (1 : Int); omega) (by show _ + (1 : Int) ≤ _; omega)).trans (by rw [h3.1]; rfl)
      have hM1 := rC_T a9 (rT_p (v := m1.1 70 8 + 1) (x := s + 1) (rC_t a9) e8 n4 ls)
      have e9 : (m1.1 70 8 + 1).toNatClampNeg = s + 1 := by show (m1.1 70 8 + 1).toInt.toNat = s + 1; omega
      have k1n : (m1.1 70 1).toInt = (n : Int) := (rN_t N a9).1
      -- no = behind it
      have no : (tsg b n s = 61 ∨ tsg b n (s + 1) ≠ 61) → xP (D180_89 F v1 (m1.1 70 8) (xu m1 70 8 (m1.1 70 8 + 1))) (rX m0 b n t cs op dp ln rp ou s0 pm0 Wt cl 2 4 cS) := by
        intro hn
        unfold D180_89 D180_90
        refine xP_i (fun _ => ?_) (fun c => absurd c (by decide))
        refine r105 cc ev (Nat.le_refl _) (fun z => ?_) hM1
        unfold tsig
        rw [ea, if_pos cc, if_neg z]
        by_cases c61 : tsg b n s = 61
        · rw [if_pos c61, if_neg (by omega), if_pos c61, (cut 6 (by decide)).1, (cut 6 (by decide)).2]
        · rw [if_neg c61, if_neg (by omega)]
          by_cases c60 : tsg b n s = 60
          · rw [if_pos c60, if_pos c60, if_pos rfl, (cut 4 (by decide)).1, (cut 4 (by decide)).2]
          · rw [if_neg c60, if_neg c60, if_neg c61, if_pos rfl, (cut 8 (by decide)).1, (cut 8 (by decide)).2]
      unfold D180_44
      refine xP_i (fun c => no (Or.inl (ev.symm.trans (zt c)))) (fun c => ?_)
      have c : v1.toInt ≠ 61 := zf c
      have c61 : ¬ tsg b n s = 61 := fun z => c (ev.trans z)
      refine xP_i (fun d => no (Or.inr ?_)) (fun d => ?_)
      · have d : (m1.1 70 1).toInt ≤ (m1.1 70 8 + 1).toInt := zt d
        unfold tsg
        rw [if_neg (by omega)]
        decide
      · have d : ¬ (m1.1 70 1).toInt ≤ (m1.1 70 8 + 1).toInt := zf d
        have l1 : s + 1 < n := by omega
        refine xP_g (xib_t (by omega) (by omega)) ?_
        have bs : tsg b n (s + 1) = b (s + 1) := if_pos l1
        obtain ⟨z1, z2⟩ := (rN_t N a9).2.2 (s + 1) l1
        rw [e9]
        refine xP_i (fun g => no (Or.inr ?_)) (fun g => ?_)
        · have g : (m1.1 71 (s + 1)).toInt ≠ 61 := zt g
          intro z
          rw [bs] at z
          rw [z2, if_pos (by omega)] at g
          exact g z
        · have g : (m1.1 71 (s + 1)).toInt = 61 := Decidable.not_not.mp (zf g)
          have c2 : tsg b n (s + 1) = 61 := by
            rw [bs]
            rw [z2] at g
            split at g <;> omega
          have h3b := hM1.2.2.1
          have hM2 := rC_T hM1 (rT_p (v := (xu m1 70 8 (m1.1 70 8 + 1)).1 70 8 + 1) (x := s + 2) (rC_t hM1) ((xa1 (by show _ ≤ _ + (1 : Int); omega) (by show _ + (1 : Int) ≤ _; omega)).trans (by rw [h3b.1]; rfl)) n4 l1)
          unfold D180_90
          refine xP_i (fun c => absurd c (by decide)) (fun _ => ?_)
          refine r105 cc ev (by omega) (fun z => ?_) hM2
          unfold tsig
          rw [ea, if_pos cc, if_neg z, if_neg c61, if_pos c2]
          by_cases c60 : tsg b n s = 60
          · rw [if_pos c60, if_pos c60, if_neg (by decide), (cut 5 (by decide)).1, (cut 5 (by decide)).2]
          · rw [if_neg c60, if_neg c60, if_neg c61, if_neg (by decide), (cut 7 (by decide)).1, (cut 7 (by decide)).2]
    dsimp only
    refine xP_i (fun c => r44 (Or.inl (e1.symm.trans (zt c))) e1) (fun c => ?_)
    refine xP_i (fun d => r44 (Or.inr (Or.inl (e1.symm.trans (zt d)))) e1) (fun d => ?_)
    refine xP_i (fun g => r44 (Or.inr (Or.inr (e1.symm.trans (zt g)))) e1) (fun g => ?_)
    have c : v1.toInt ≠ 60 := zf c
    have d : v1.toInt ≠ 61 := zf d
    have g : v1.toInt ≠ 62 := zf g
    refine xP_b (R163c a9 (by omega) (by omega) (by decide) (by decide)) (fun r m5 q5 => ?_)
    obtain ⟨rfl, q5⟩ := q5
    refine xP_g (show xbo (0 : Int32) = true by decide) (xP_r (Or.inl ⟨rfl, j + 1, 1 + 8 * (s : Int), by omega, ?_, by omega, ?_⟩))
    · refine (stn_add j a1).trans (stn_1 (jn.trans ?_))
      unfold tsig
      rw [ea, if_neg (fun z => z.elim (fun z => c (e1.trans z)) (fun z => z.elim (fun z => d (e1.trans z)) (fun z => g (e1.trans z))))]
    · rw [h3.1, show (1 + 8 * (s : Int) + (0 : Int32).toInt) = 1 + 8 * (s : Int) from Int.add_zero _] at q5
      exact ⟨_, _, _, _, _, _, _, _, _, _, hT, q5⟩
end RCM
