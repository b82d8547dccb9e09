/-! The reference's terms and sums: the machine does the same. -/
def stn (b : Nat → Int) (n : Nat) : Nat → tSt → Int ⊕ tSt
  | 0, s => .inr s
  | j + 1, s => match tstp b n s with
    | .inl f => .inl f
    | .inr s' => stn b n j s'
theorem stn_add {b : Nat → Int} {n : Nat} {j : Nat} : ∀ (i : Nat) {s s' : tSt}, stn b n i s = .inr s' → stn b n (i + j) s = stn b n j s' := by
  intro i
  induction i with
  | zero =>
    intro s s' h
    have h : Sum.inr s = (Sum.inr s' : Int ⊕ tSt) := h
    rw [Nat.zero_add, Sum.inr.inj h]
  | succ i ih =>
    intro s s' h
    rw [show i + 1 + j = (i + j) + 1 by omega]
    have h : (match tstp b n s with
      | .inl f => (Sum.inl f : Int ⊕ tSt)
      | .inr s' => stn b n i s') = (Sum.inr s' : Int ⊕ tSt) := h
    show (match tstp b n s with
      | .inl f => (Sum.inl f : Int ⊕ tSt)
      | .inr s' => stn b n (i + j) s') = _
    cases e : tstp b n s with
    | inl f => rw [e] at h; cases h
    | inr s1 =>
      rw [e] at h
      exact ih h
theorem stn_1 {b : Nat → Int} {n : Nat} {s : tSt} {x : Int ⊕ tSt} (h : tstp b n s = x) : stn b n 1 s = x := by
  show (match tstp b n s with
    | .inl f => .inl f
    | .inr s' => .inr s') = x
  rw [h]
  cases x <;> rfl
theorem tSe_stop {o : Int} {ws out : List Int} (h : ∀ w vs, ws = w :: vs → tcl w < tcl o) : tSe o ws out = (out, ws, 0) := by
  cases ws with
  | nil => rfl
  | cons w vs =>
    have := h w vs rfl
    exact if_neg (by omega)
theorem tSe_app {o : Int} {ws : List Int} (h : ∀ w vs, ws = w :: vs → tcl w < tcl o) : ∀ (Z out : List Int), (∀ z ∈ Z, tcl o ≤ tcl z) → (tSe o (Z ++ ws) out).1 = Z.reverse ++ out ∧ (tSe o (Z ++ ws) out).2.1 = ws := by
  intro Z
  induction Z with
  | nil =>
    intro out _
    rw [List.nil_append, tSe_stop h]
    exact ⟨rfl, rfl⟩
  | cons z Z ih =>
    intro out hz
    have e : tSe o (z :: (Z ++ ws)) out = ((tSe o (Z ++ ws) (z :: out)).1, (tSe o (Z ++ ws) (z :: out)).2.1, (tSe o (Z ++ ws) (z :: out)).2.2 + (if z = 3 then 1 else 0)) := if_pos (hz z List.mem_cons_self)
    obtain ⟨a1, a2⟩ := ih (z :: out) (fun y hy => hz y (List.mem_cons_of_mem _ hy))
    rw [List.cons_append, e]
    refine ⟨?_, a2⟩
    show (tSe o (Z ++ ws) (z :: out)).1 = _
    rw [a1, List.reverse_cons, List.append_assoc]
    rfl
theorem tval_eq {b : Nat → Int} {n p q k : Nat} (h : tsk b n p = tsk b n q) : tval b n p k = tval b n q k := by
  have h : tS tbl b n p = tS tbl b n q := h
  unfold tval tsk tde twd tle
  rw [h]
theorem tval_lt {b : Nat → Int} {n p k : Nat} {x : Nat × Int} (pn : p ≤ n) (a1 : tval b n p k = .inr x) : tsk b n p < x.1 ∧ x.1 ≤ n ∧ k < 60 := by
  have l4 : tS tbl b n p ≤ n := tS_le p pn
  unfold tval at a1
  split at a1
  · next dg =>
    split at a1
    · cases a1
    · split at a1
      · cases a1
      · next z1 z2 =>
        have ln := tsg_lt (b := b) (n := n) (p := tsk b n p) rfl (fun z => by rw [z] at dg; cases dg)
        have ld : tS tbl b n p < tS tdg b n (tS tbl b n p) := tS_lt ln.1 (by rw [ln.2]; exact dg)
        have a1 := Sum.inr.inj a1
        rw [← a1]
        exact ⟨ld, tS_le _ l4, by omega⟩
  · split at a1
    · cases a1
    · next u hu =>
      split at a1
      · cases a1
      · next z2 =>
        have a1 := Sum.inr.inj a1
        rw [← a1]
        refine ⟨?_, tS_le _ l4, by omega⟩
        show tS tbl b n p < tS tlt b n (tS tbl b n p)
        have ne : twd b n p ≠ [] := fun z => by
          rw [z] at hu
          have : tix ([] : List Int) tw1004 = none := by decide
          rw [this] at hu
          cases hu
        have g3 : tS tbl b n p ≤ tS tlt b n (tS tbl b n p) := tS_ge _
        by_cases e : tS tlt b n (tS tbl b n p) = tS tbl b n p
        · exact absurd (show twd b n p = [] by show tw b (tS tbl b n p) (tS tlt b n (tS tbl b n p)) = []; rw [e, tw_nil]) ne
        · omega
section RS
variable {m0 m : xS} {b : Nat → Int} {n t : Nat} {cs : List (Int × Int × Int × Int)} {op : List Int} {dp ln : Int} {F : Nat} {s0 : tSt} {pm0 : Nat} {Wt : List Int} {cl wh : Nat} {rp ou : List Int}
/-- both stand behind a value; Z waits in the machine and stands in the code already -/
def rY (m0 : xS) (b : Nat → Int) (n t : Nat) (cs : List (Int × Int × Int × Int)) (op : List Int) (dp ln : Int) (rp ou : List Int) (s0 : tSt) (pm0 : Nat) (Wt : List Int) (cl wh : Nat) (lo : Int) (pr : Nat) (m : xS) : Prop := ∃ (j pm k : Nat) (nu : Int) (rc out Z : List Int), stn b n j s0 = .inr (pm, k, out ++ ou, Z ++ Wt, cl, 3, wh) ∧ pm0 + j ≤ pm ∧ pm ≤ pr ∧ tsk b n pr = tsk b n pm ∧ (∀ z ∈ Z, lo ≤ tcl z) ∧ rc.map tenc = Z.reverse ++ out ∧ (rp.length ≤ ou.length ∧ out.length + ou.length + Z.length + Wt.length + 1 ≤ pm) ∧ k ≤ 60 ∧ rC m0 n t pr 0 nu (k : Int) (rc ++ rp) cs op dp ln m
def rZ (m0 : xS) (b : Nat → Int) (n : Nat) (s0 : tSt) (pm0 : Nat) (m : xS) : Prop := ∃ (j : Nat) (g : Int), g ≠ 0 ∧ stn b n j s0 = .inl g ∧ pm0 + j ≤ n + 1 ∧ rF m0 g m
def rX (m0 : xS) (b : Nat → Int) (n t : Nat) (cs : List (Int × Int × Int × Int)) (op : List Int) (dp ln : Int) (rp ou : List Int) (s0 : tSt) (pm0 : Nat) (Wt : List Int) (cl wh : Nat) (lo : Int) (C : Int → Prop) (v : Int32) (m : xS) : Prop := (v = 0 ∧ rZ m0 b n s0 pm0 m) ∨ (v = 1 ∧ ∃ pr, C (tsg b n (tsk b n pr)) ∧ rY m0 b n t cs op dp ln rp ou s0 pm0 Wt cl wh lo pr m)
theorem rZ_tr {i : Nat} {s1 : tSt} {pm1 : Nat} (h : stn b n i s0 = .inr s1) (l : pm0 + i ≤ pm1) (z : rZ m0 b n s1 pm1 m) : rZ m0 b n s0 pm0 m := by
  obtain ⟨j, g, a1, a2, a3, a4⟩ := z
  exact ⟨i + j, g, a1, (stn_add i h).trans a2, by omega, a4⟩
theorem rY_tr {i : Nat} {s1 : tSt} {pm1 pr : Nat} {lo : Int} (h : stn b n i s0 = .inr s1) (l : pm0 + i ≤ pm1) (z : rY m0 b n t cs op dp ln rp ou s1 pm1 Wt cl wh lo pr m) : rY m0 b n t cs op dp ln rp ou s0 pm0 Wt cl wh lo pr m := by
  obtain ⟨j, pm, k, nu, rc, out, Z, a1, a2, a3⟩ := z
  exact ⟨i + j, pm, k, nu, rc, out, Z, (stn_add i h).trans a1, by omega, a3⟩
/-- a value: both read it -/
theorem R177s {pm pr k : Nat} {nu : Int} {rc out : List Int} (hF : 500 ≤ F) (N : rN m0 b n) (ht : t < 6) (hT : (m0.1 70 11).toInt = (t : Int)) (hs : tstp b n s0 = tvs b n pm k (out ++ ou) Wt cl wh) (l0 : pm0 ≤ pm) (l1 : pm ≤ pr) (e : tsk b n pr = tsk b n pm) (hr : rc.map tenc = out) (hl : rp.length ≤ ou.length ∧ out.length + ou.length + Wt.length + 1 ≤ pm) (hk : k ≤ 60) (h : rC m0 n t pr 0 nu (k : Int) (rc ++ rp) cs op dp ln m) : xP (D177 F m) (fun v m' => (v = 0 ∧ rZ m0 b n s0 pm0 m') ∨ (v = 1 ∧ ∃ (pr' : Nat) (nu' : Int) (rc' out' : List Int), stn b n 1 s0 = .inr (pr', k + 1, out' ++ ou, Wt, cl, 3, wh) ∧ pm0 + 1 ≤ pr' ∧ rc'.map tenc = out' ∧ (rp.length ≤ ou.length ∧ out'.length + ou.length + Wt.length + 1 ≤ pr') ∧ k + 1 ≤ 60 ∧ rC m0 n t pr' 0 nu' ((k + 1 : Nat) : Int) (rc' ++ rp) cs op dp ln m')) := by
  have n4 := N.2.1
  have prn : pr ≤ n := h.2.2.1.2
  have rl : rc.length = out.length := by rw [← hr, List.length_map]
  refine xP_m (R177 hF N ht hT h hk (by rw [List.length_append]; omega)) (fun v m' q => ?_)
  rcases q with ⟨f, a1, a2, a3, a4⟩ | ⟨x, c, nu', a1, a2, a3, a4⟩
  · refine Or.inl ⟨a3, 1, f, a2, ?_, by omega, a4⟩
    refine stn_1 (hs.trans ?_)
    unfold tvs
    rw [← tval_eq e, a1]
  · refine Or.inr ⟨a2, x.1, nu', c :: rc, x.2 :: out, ?_, ?_, ?_, ?_, ?_, a4⟩
    · refine stn_1 (hs.trans ?_)
      unfold tvs
      rw [← tval_eq e, a1]
      rfl
    · have := (tval_lt prn a1).1
      have g : pr ≤ tsk b n pr := tS_ge pr
      omega
    · rw [List.map_cons, hr, a3]
    · have := (tval_lt prn a1).1
      have g : pr ≤ tsk b n pr := tS_ge pr
      rw [List.length_cons]
      exact ⟨hl.1, by omega⟩
    · have := (tval_lt prn a1).2.2
      omega
abbrev cT (c : Int) : Prop := c ≠ 42 ∧ c ≠ 47 ∧ c ≠ 37
abbrev cS (c : Int) : Prop := topr c = -1
/-- behind an operation's sign: the machine joins, both read a value, the reference puts the operation -/
theorem R178_74 {o : Int} {w0 : Int32} {pr : Nat} {g : xS → Option (Int32 × xS)} (hF : 500 ≤ F) (N : rN m0 b n) (ht : t < 6) (hT : (m0.1 70 11).toInt = (t : Int)) (hw : wh ≠ 3) (hst : ∀ w vs, Wt = w :: vs → tcl w < 11) (h : rY m0 b n t cs op dp ln rp ou s0 pm0 Wt cl wh 11 pr m) (ps : tsk b n pr = pr) (ho : topr (tsg b n pr) = o) (o1 : tcl o = 11) (o2 : o ≠ -1) (lt : pr < n) (hc : tenc (w0 + 16 * 0 : Int32).toInt = o) (IH : ∀ m' pr', rY m0 b n t cs op dp ln rp ou s0 pm0 Wt cl wh 11 pr' m' → pr < pr' → xP (g m') (rX m0 b n t cs op dp ln rp ou s0 pm0 Wt cl wh 11 cT)) : xP (D178_74 F g w0 m) (rX m0 b n t cs op dp ln rp ou s0 pm0 Wt cl wh 11 cT) := by
  have n4 := N.2.1
  obtain ⟨j, pm, k, nu, rc, out, Z, a1, a2, a3, a4, a5, a6, a7, a8, a9⟩ := h
  have h3 := a9.2.2.1
  have hM := rC_T a9 (rT_p (v := m.1 70 8 + 1) (x := pr + 1) (rC_t a9) ((xa1 (by show _ ≤ _ + (1 : Int); omega) (by show _ + (1 : Int) ≤ _; omega)).trans (by rw [h3.1]; rfl)) n4 lt)
  have ea : tsk b n pm = pr := by rw [← a4, ps]
  have step : tstp b n (pm, k, out ++ ou, Z ++ Wt, cl, 3, wh) = .inr (pr + 1, k, (Z.reverse ++ out) ++ ou, o :: Wt, cl, 2, wh) := by
    have e2 := tSe_app (o := o) (ws := Wt) (by rw [o1]; exact hst) Z (out ++ ou) (by rw [o1]; exact a5)
    show tjnt b n pm k (out ++ ou) (Z ++ Wt) cl wh = _
    unfold tjnt
    rw [ea, ho, if_pos ⟨hw, o2⟩, e2.1, e2.2, List.append_assoc]
  have st2 : stn b n (j + 1) s0 = .inr (pr + 1, k, (Z.reverse ++ out) ++ ou, o :: Wt, cl, 2, wh) := (stn_add j a1).trans (stn_1 step)
  have rl : rc.length = Z.length + out.length := by
    have := congrArg List.length a6
    rw [List.length_map, List.length_append, List.length_reverse] at this
    exact this
  unfold D178_74
  refine xP_b (R177s (s0 := (pr + 1, k, (Z.reverse ++ out) ++ ou, o :: Wt, cl, 2, wh)) (pm0 := pr + 1) (pm := pr + 1) (pr := pr + 1) (Wt := o :: Wt) (cl := cl) (wh := wh) hF N ht hT rfl (Nat.le_refl _) (Nat.le_refl _) rfl a6 (by rw [List.length_append, List.length_reverse, List.length_cons]; exact ⟨a7.1, by omega⟩) a8 hM) (fun v m2 q => ?_)
  dsimp only
  rcases q with ⟨rfl, q⟩ | ⟨rfl, pr', nu', rc', out', b1, b2, b3, b4, b5, b6⟩
  · exact xP_i (fun c => absurd c (by decide)) (fun _ => xP_r (Or.inl ⟨rfl, rZ_tr st2 (by omega) q⟩))
  · refine xP_i (fun _ => ?_) (fun c => absurd c (by decide))
    have prn : pr' ≤ n := b6.2.2.1.2
    have rl' : rc'.length = out'.length := by rw [← b3, List.length_map]
    rw [List.length_cons] at b4
    refine xP_b (R172 (s := w0) (v := 0) (c := (w0 + 16 * 0 : Int32).toInt) ht hT b6 (by rw [List.length_append]; omega) rfl) (fun _ m3 q3 => ?_)
    refine IH m3 pr' ⟨j + 1 + 1, pr', k + 1, nu', (w0 + 16 * 0 : Int32).toInt :: rc', out', [o], ?_, by omega, Nat.le_refl _, rfl, ?_, ?_, ?_, b5, q3.1⟩ (by omega)
    · exact (stn_add (j + 1) st2).trans b1
    · intro z hz
      rw [List.mem_singleton.mp hz, o1]
      exact Int.le_refl _
    · rw [List.map_cons, hc, b3]
      rfl
    · show rp.length ≤ ou.length ∧ out'.length + ou.length + 1 + Wt.length + 1 ≤ pr'
      exact ⟨b4.1, by omega⟩
theorem rbyte {m : xS} {pr : Nat} {nu k : Int} {rc : List Int} {c : Int} (N : rN m0 b n) (h : rC m0 n t pr 0 nu k rc cs op dp ln m) (lt : pr < n) (hc : 0 ≤ c ∧ c < 128) : (m.1 71 pr).toInt = c ↔ b pr = c := by
  obtain ⟨z1, z2⟩ := (rN_t N h).2.2 pr lt
  rw [z2]
  split <;> omega
theorem R178_36 {pr : Nat} {g : xS → Option (Int32 × xS)} (hF : 500 ≤ F) (N : rN m0 b n) (ht : t < 6) (hT : (m0.1 70 11).toInt = (t : Int)) (hw : wh ≠ 3) (hst : ∀ w vs, Wt = w :: vs → tcl w < 11) (h : rY m0 b n t cs op dp ln rp ou s0 pm0 Wt cl wh 11 pr m) (ps : tsk b n pr = pr) (ho : tsg b n pr = 42 ∨ tsg b n pr = 47 ∨ tsg b n pr = 37) (IH : ∀ m' pr', rY m0 b n t cs op dp ln rp ou s0 pm0 Wt cl wh 11 pr' m' → pr < pr' → xP (g m') (rX m0 b n t cs op dp ln rp ou s0 pm0 Wt cl wh 11 cT)) : xP (D178_36 F g m) (rX m0 b n t cs op dp ln rp ou s0 pm0 Wt cl wh 11 cT) := by
  have n4 := N.2.1
  have h0 := h
  obtain ⟨j, pm, k, nu, rc, out, Z, a1, a2, a3, a4, a5, a6, a7, a8, a9⟩ := h
  have h3 := a9.2.2.1
  have lt : pr < n ∧ b pr = tsg b n pr := by
    rcases ho with z | z | z
    · exact ⟨(tsg_lt z (by decide)).1, (tsg_lt z (by decide)).2.trans z.symm⟩
    · exact ⟨(tsg_lt z (by decide)).1, (tsg_lt z (by decide)).2.trans z.symm⟩
    · exact ⟨(tsg_lt z (by decide)).1, (tsg_lt z (by decide)).2.trans z.symm⟩
  have xi : xib (m.1 70 8) 400 = true := xib_t (by omega) (by omega)
  unfold D178_36
  rw [rC_i a9]
  refine xP_g xi (xP_i (fun c => xP_g xi (xP_i (fun d => ?_) (fun d => ?_))) (fun c => ?_))
  · have c : (m.1 71 pr).toInt ≠ 42 := zt c
    have d : (m.1 71 pr).toInt ≠ 47 := zt d
    have e : tsg b n pr = 37 := by
      rcases ho with z | z | z
      · exact absurd ((rbyte N a9 lt.1 (by decide)).mpr (lt.2.trans z)) c
      · exact absurd ((rbyte N a9 lt.1 (by decide)).mpr (lt.2.trans z)) d
      · exact z
    exact R178_74 (o := 13) hF N ht hT hw hst h0 ps (by rw [e]; decide) (by decide) (by decide) lt.1 (by decide) IH
  · have d : (m.1 71 pr).toInt = 47 := Decidable.not_not.mp (zf d)
    have e : tsg b n pr = 47 := lt.2.symm.trans ((rbyte N a9 lt.1 (by decide)).mp d)
    exact R178_74 (o := 12) hF N ht hT hw hst h0 ps (by rw [e]; decide) (by decide) (by decide) lt.1 (by decide) IH
  · have c : (m.1 71 pr).toInt = 42 := Decidable.not_not.mp (zf c)
    have e : tsg b n pr = 42 := lt.2.symm.trans ((rbyte N a9 lt.1 (by decide)).mp c)
    exact R178_74 (o := 11) hF N ht hT hw hst h0 ps (by rw [e]; decide) (by decide) (by decide) lt.1 (by decide) IH
/-- see, where both stand behind a value -/
theorem R164y {pr : Nat} {lo : Int} (hF : 500 ≤ F) (N : rN m0 b n) (h : rY m0 b n t cs op dp ln rp ou s0 pm0 Wt cl wh lo pr m) : xP (D164 F m) (fun v m' => rY m0 b n t cs op dp ln rp ou s0 pm0 Wt cl wh lo (tsk b n pr) m' ∧ v.toInt = tsg b n (tsk b n pr)) := by
  obtain ⟨j, pm, k, nu, rc, out, Z, a1, a2, a3, a4, a5, a6, a7, a8, a9⟩ := h
  refine xP_m (R164 hF (rN_t N a9) (rC_t a9)) (fun v m' q => ⟨⟨j, pm, k, nu, rc, out, Z, a1, a2, ?_, ?_, a5, a6, a7, a8, rC_T a9 q.1⟩, q.2⟩)
  · have := tS_ge (P := tbl) (b := b) (n := n) pr
    exact Nat.le_trans a3 this
  · rw [show tsk b n (tsk b n pr) = tsk b n pr from tS_id pr, a4]
theorem R178_9 (hF : 500 ≤ F) (N : rN m0 b n) (ht : t < 6) (hT : (m0.1 70 11).toInt = (t : Int)) (hw : wh ≠ 3) (hst : ∀ w vs, Wt = w :: vs → tcl w < 11) : ∀ (f : Nat) {pr : Nat} {m : xS}, rY m0 b n t cs op dp ln rp ou s0 pm0 Wt cl wh 11 pr m → n - pr < f → xP (D178_9 F f m) (rX m0 b n t cs op dp ln rp ou s0 pm0 Wt cl wh 11 cT) := by
  intro f
  induction f with
  | zero => intro pr m _ l; omega
  | succ f ih =>
    intro pr m h l
    have id : tsk b n (tsk b n pr) = tsk b n pr := tS_id pr
    have ge : pr ≤ tsk b n pr := tS_ge pr
    have go : ∀ {m' : xS}, rY m0 b n t cs op dp ln rp ou s0 pm0 Wt cl wh 11 (tsk b n pr) m' → (tsg b n (tsk b n pr) = 42 ∨ tsg b n (tsk b n pr) = 47 ∨ tsg b n (tsk b n pr) = 37) → xP (D178_36 F (D178_9 F f) m') (rX m0 b n t cs op dp ln rp ou s0 pm0 Wt cl wh 11 cT) := fun {m'} hh ho => R178_36 hF N ht hT hw hst hh id ho (fun m2 pr2 h2 l2 => by
      refine ih h2 ?_
      have : tsk b n pr < n := by
        rcases ho with z | z | z
        · exact (tsg_lt z (by decide)).1
        · exact (tsg_lt z (by decide)).1
        · exact (tsg_lt z (by decide)).1
      omega)
    unfold D178_9
    refine xP_b (R164y hF N h) (fun v1 m1 q1 => ?_)
    obtain ⟨q1, e1⟩ := q1
    dsimp only
    refine xP_i (fun c => go q1 (Or.inl (e1.symm.trans (zt c)))) (fun c => ?_)
    refine xP_b (R164y hF N q1) (fun v2 m2 q2 => ?_)
    rw [id] at q2
    obtain ⟨q2, e2⟩ := q2
    dsimp only
    refine xP_i (fun d => go q2 (Or.inr (Or.inl (e2.symm.trans (zt d))))) (fun d => ?_)
    refine xP_b (R164y hF N q2) (fun v3 m3 q3 => ?_)
    rw [id] at q3
    obtain ⟨q3, e3⟩ := q3
    dsimp only
    refine xP_i (fun e => xP_r (Or.inr ⟨rfl, tsk b n pr, ?_, q3⟩)) (fun e => ?_)
    · rw [id]
      exact ⟨fun z => (zf c : ¬ v1.toInt = 42) (e1.trans z), fun z => (zf d : ¬ v2.toInt = 47) (e2.trans z), fun z => (zt e : v3.toInt ≠ 37) (e3.trans z)⟩
    · have e : v3.toInt = 37 := Decidable.not_not.mp (zf e)
      exact go q3 (Or.inr (Or.inr (e3.symm.trans e)))
/-- term -/
theorem R178 {pm pr k : Nat} {nu : Int} {rc out : List Int} (hF : 500 ≤ F) (N : rN m0 b n) (ht : t < 6) (hT : (m0.1 70 11).toInt = (t : Int)) (hw : wh ≠ 3) (hst : ∀ w vs, Wt = w :: vs → tcl w < 11) (hs : tstp b n s0 = tvs b n pm k (out ++ ou) Wt cl wh) (l0 : pm0 ≤ pm) (l1 : pm ≤ pr) (e : tsk b n pr = tsk b n pm) (hr : rc.map tenc = out) (hl : rp.length ≤ ou.length ∧ out.length + ou.length + Wt.length + 1 ≤ pm) (hk : k ≤ 60) (h : rC m0 n t pr 0 nu (k : Int) (rc ++ rp) cs op dp ln m) : xP (D178 F m) (rX m0 b n t cs op dp ln rp ou s0 pm0 Wt cl wh 11 cT) := by
  have n4 := N.2.1
  unfold D178
  refine xP_b (R177s hF N ht hT hs l0 l1 e hr hl hk h) (fun v m2 q => ?_)
  dsimp only
  rcases q with ⟨rfl, q⟩ | ⟨rfl, pr', nu', rc', out', b1, b2, b3, b4, b5, b6⟩
  · exact xP_i (fun c => absurd c (by decide)) (fun _ => xP_r (Or.inl ⟨rfl, q⟩))
  · refine xP_i (fun _ => ?_) (fun c => absurd c (by decide))
    refine R178_9 hF N ht hT hw hst F (pr := pr') ⟨1, pr', k + 1, nu', rc', out', [], b1, b2, Nat.le_refl _, rfl, fun z hz => (by cases hz), ?_, ?_, b5, b6⟩ (by omega)
    · rw [b3]
      rfl
    · show rp.length ≤ ou.length ∧ out'.length + ou.length + 0 + Wt.length + 1 ≤ pr'
      exact ⟨b4.1, by omega⟩
end RS
